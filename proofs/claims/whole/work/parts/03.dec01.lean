set_option maxRecDepth 20000 in
theorem ggX0_init_X0_empty : GoodIn wsX0_init wsX0_empty := goodIn_r _ [17, 18, 19, 20, 5, 21, 22, 23, 24, 25, 26, 27, 28, 29, 30, 31] (by decide +kernel) (by decide +kernel)
set_option maxRecDepth 20000 in
theorem gX0_init_X0_empty : GoodIn wsX0_init (wsV RX0 36 RX0 yX0_empty wsX0_empty) := goodIn_app (goodIn_of _ (by decide +kernel)) ggX0_init_X0_empty
theorem dX0_init_0 : decode cX0_init 0 = .ok (.aload_n 0, 1) := by decide +kernel
theorem dX0_init_1 : decode cX0_init 1 = .ok (.invokespecial 3, 3) := by decide +kernel
theorem dX0_init_4 : decode cX0_init 4 = .ok (.aload_n 0, 1) := by decide +kernel
theorem dX0_init_5 : decode cX0_init 5 = .ok (.bipush 36, 2) := by decide +kernel
theorem dX0_init_7 : decode cX0_init 7 = .ok (.newarray .int, 2) := by decide +kernel
theorem dX0_init_9 : decode cX0_init 9 = .ok (.putfield 9, 3) := by decide +kernel
theorem dX0_init_12 : decode cX0_init 12 = .ok (.aload_n 0, 1) := by decide +kernel
theorem dX0_init_13 : decode cX0_init 13 = .ok (.bipush 7, 2) := by decide +kernel
theorem dX0_init_15 : decode cX0_init 15 = .ok (.newarray .int, 2) := by decide +kernel
theorem dX0_init_17 : decode cX0_init 17 = .ok (.putfield 15, 3) := by decide +kernel
theorem dX0_init_20 : decode cX0_init 20 = .ok (.aload_n 0, 1) := by decide +kernel
theorem dX0_init_21 : decode cX0_init 21 = .ok (.bipush 7, 2) := by decide +kernel
theorem dX0_init_23 : decode cX0_init 23 = .ok (.newarray .int, 2) := by decide +kernel
theorem dX0_init_25 : decode cX0_init 25 = .ok (.putfield 18, 3) := by decide +kernel
theorem dX0_init_28 : decode cX0_init 28 = .ok (.aload_n 0, 1) := by decide +kernel
theorem dX0_init_29 : decode cX0_init 29 = .ok (.bipush 7, 2) := by decide +kernel
theorem dX0_init_31 : decode cX0_init 31 = .ok (.newarray .int, 2) := by decide +kernel
theorem dX0_init_33 : decode cX0_init 33 = .ok (.putfield 21, 3) := by decide +kernel
theorem dX0_init_36 : decode cX0_init 36 = .ok (.aload_n 0, 1) := by decide +kernel
theorem dX0_init_37 : decode cX0_init 37 = .ok (.bipush 7, 2) := by decide +kernel
theorem dX0_init_39 : decode cX0_init 39 = .ok (.newarray .int, 2) := by decide +kernel
theorem dX0_init_41 : decode cX0_init 41 = .ok (.putfield 24, 3) := by decide +kernel
theorem dX0_init_44 : decode cX0_init 44 = .ok (.aload_n 0, 1) := by decide +kernel
theorem dX0_init_45 : decode cX0_init 45 = .ok (.bipush 6, 2) := by decide +kernel
theorem dX0_init_47 : decode cX0_init 47 = .ok (.newarray .int, 2) := by decide +kernel
theorem dX0_init_49 : decode cX0_init 49 = .ok (.putfield 27, 3) := by decide +kernel
theorem dX0_init_52 : decode cX0_init 52 = .ok (.aload_n 0, 1) := by decide +kernel
theorem dX0_init_53 : decode cX0_init 53 = .ok (.bipush 6, 2) := by decide +kernel
theorem dX0_init_55 : decode cX0_init 55 = .ok (.newarray .int, 2) := by decide +kernel
theorem dX0_init_57 : decode cX0_init 57 = .ok (.putfield 30, 3) := by decide +kernel
theorem dX0_init_60 : decode cX0_init 60 = .ok (.aload_n 0, 1) := by decide +kernel
theorem dX0_init_61 : decode cX0_init 61 = .ok (.bipush 8, 2) := by decide +kernel
theorem dX0_init_63 : decode cX0_init 63 = .ok (.newarray .int, 2) := by decide +kernel
theorem dX0_init_65 : decode cX0_init 65 = .ok (.putfield 33, 3) := by decide +kernel
theorem dX0_init_68 : decode cX0_init 68 = .ok (.aload_n 0, 1) := by decide +kernel
theorem dX0_init_69 : decode cX0_init 69 = .ok (.invokevirtual 36, 3) := by decide +kernel
theorem dX0_init_72 : decode cX0_init 72 = .ok (.return_, 1) := by decide +kernel
theorem dX0_empty_0 : decode cX0_empty 0 = .ok (.aload_n 0, 1) := by decide +kernel
theorem dX0_empty_1 : decode cX0_empty 1 = .ok (.iconst 0, 1) := by decide +kernel
theorem dX0_empty_2 : decode cX0_empty 2 = .ok (.putfield 39, 3) := by decide +kernel
theorem dX0_empty_5 : decode cX0_empty 5 = .ok (.aload_n 0, 1) := by decide +kernel
theorem dX0_empty_6 : decode cX0_empty 6 = .ok (.iconst 0, 1) := by decide +kernel
theorem dX0_empty_7 : decode cX0_empty 7 = .ok (.putfield 43, 3) := by decide +kernel
theorem dX0_empty_10 : decode cX0_empty 10 = .ok (.aload_n 0, 1) := by decide +kernel
theorem dX0_empty_11 : decode cX0_empty 11 = .ok (.iconst 0, 1) := by decide +kernel
theorem dX0_empty_12 : decode cX0_empty 12 = .ok (.putfield 46, 3) := by decide +kernel
theorem dX0_empty_15 : decode cX0_empty 15 = .ok (.iconst 0, 1) := by decide +kernel
theorem dX0_empty_16 : decode cX0_empty 16 = .ok (.istore_n 1, 1) := by decide +kernel
theorem dX0_empty_17 : decode cX0_empty 17 = .ok (.iload_n 1, 1) := by decide +kernel
theorem dX0_empty_18 : decode cX0_empty 18 = .ok (.bipush 6, 2) := by decide +kernel
theorem dX0_empty_20 : decode cX0_empty 20 = .ok (.if_icmp .ge 44, 3) := by decide +kernel
theorem dX0_empty_23 : decode cX0_empty 23 = .ok (.iconst 0, 1) := by decide +kernel
theorem dX0_empty_24 : decode cX0_empty 24 = .ok (.istore_n 2, 1) := by decide +kernel
theorem dX0_empty_25 : decode cX0_empty 25 = .ok (.iload_n 2, 1) := by decide +kernel
theorem dX0_empty_26 : decode cX0_empty 26 = .ok (.bipush 6, 2) := by decide +kernel
theorem dX0_empty_28 : decode cX0_empty 28 = .ok (.if_icmp .ge 30, 3) := by decide +kernel
theorem dX0_empty_31 : decode cX0_empty 31 = .ok (.aload_n 0, 1) := by decide +kernel
theorem dX0_empty_32 : decode cX0_empty 32 = .ok (.getfield 9, 3) := by decide +kernel
theorem dX0_empty_35 : decode cX0_empty 35 = .ok (.iload_n 1, 1) := by decide +kernel
theorem dX0_empty_36 : decode cX0_empty 36 = .ok (.bipush 6, 2) := by decide +kernel
theorem dX0_empty_38 : decode cX0_empty 38 = .ok (.imul, 1) := by decide +kernel
theorem dX0_empty_39 : decode cX0_empty 39 = .ok (.iload_n 2, 1) := by decide +kernel
theorem dX0_empty_40 : decode cX0_empty 40 = .ok (.iadd, 1) := by decide +kernel
theorem dX0_empty_41 : decode cX0_empty 41 = .ok (.iload_n 1, 1) := by decide +kernel
theorem dX0_empty_42 : decode cX0_empty 42 = .ok (.iload_n 2, 1) := by decide +kernel
theorem dX0_empty_43 : decode cX0_empty 43 = .ok (.if_icmp .ne 7, 3) := by decide +kernel
theorem dX0_empty_46 : decode cX0_empty 46 = .ok (.iconst 3, 1) := by decide +kernel
theorem dX0_empty_47 : decode cX0_empty 47 = .ok (.goto 4, 3) := by decide +kernel
theorem dX0_empty_50 : decode cX0_empty 50 = .ok (.iconst (-1), 1) := by decide +kernel
theorem dX0_empty_51 : decode cX0_empty 51 = .ok (.iastore, 1) := by decide +kernel
theorem dX0_empty_52 : decode cX0_empty 52 = .ok (.iinc 2 1, 3) := by decide +kernel
theorem dX0_empty_55 : decode cX0_empty 55 = .ok (.goto (-30), 3) := by decide +kernel
theorem dX0_empty_58 : decode cX0_empty 58 = .ok (.iinc 1 1, 3) := by decide +kernel
theorem dX0_empty_61 : decode cX0_empty 61 = .ok (.goto (-44), 3) := by decide +kernel
theorem dX0_empty_64 : decode cX0_empty 64 = .ok (.return_, 1) := by decide +kernel
theorem dX0_become_0 : decode cX0_become 0 = .ok (.aload_n 0, 1) := by decide +kernel
theorem dX0_become_1 : decode cX0_become 1 = .ok (.aload_n 1, 1) := by decide +kernel
theorem dX0_become_2 : decode cX0_become 2 = .ok (.getfield 39, 3) := by decide +kernel
theorem dX0_become_5 : decode cX0_become 5 = .ok (.putfield 39, 3) := by decide +kernel
theorem dX0_become_8 : decode cX0_become 8 = .ok (.aload_n 0, 1) := by decide +kernel
theorem dX0_become_9 : decode cX0_become 9 = .ok (.aload_n 1, 1) := by decide +kernel
theorem dX0_become_10 : decode cX0_become 10 = .ok (.getfield 43, 3) := by decide +kernel
theorem dX0_become_13 : decode cX0_become 13 = .ok (.putfield 43, 3) := by decide +kernel
theorem dX0_become_16 : decode cX0_become 16 = .ok (.aload_n 0, 1) := by decide +kernel
theorem dX0_become_17 : decode cX0_become 17 = .ok (.aload_n 1, 1) := by decide +kernel
theorem dX0_become_18 : decode cX0_become 18 = .ok (.getfield 46, 3) := by decide +kernel
theorem dX0_become_21 : decode cX0_become 21 = .ok (.putfield 46, 3) := by decide +kernel
theorem dX0_become_24 : decode cX0_become 24 = .ok (.aload_n 1, 1) := by decide +kernel
theorem dX0_become_25 : decode cX0_become 25 = .ok (.getfield 9, 3) := by decide +kernel
theorem dX0_become_28 : decode cX0_become 28 = .ok (.iconst 0, 1) := by decide +kernel
theorem dX0_become_29 : decode cX0_become 29 = .ok (.aload_n 0, 1) := by decide +kernel
theorem dX0_become_30 : decode cX0_become 30 = .ok (.getfield 9, 3) := by decide +kernel
theorem dX0_become_33 : decode cX0_become 33 = .ok (.iconst 0, 1) := by decide +kernel
theorem dX0_become_34 : decode cX0_become 34 = .ok (.aload_n 0, 1) := by decide +kernel
theorem dX0_become_35 : decode cX0_become 35 = .ok (.getfield 9, 3) := by decide +kernel
theorem dX0_become_38 : decode cX0_become 38 = .ok (.arraylength, 1) := by decide +kernel
theorem dX0_become_39 : decode cX0_become 39 = .ok (.invokestatic 49, 3) := by decide +kernel
theorem dX0_become_42 : decode cX0_become 42 = .ok (.aload_n 1, 1) := by decide +kernel
theorem dX0_become_43 : decode cX0_become 43 = .ok (.getfield 15, 3) := by decide +kernel
theorem dX0_become_46 : decode cX0_become 46 = .ok (.iconst 0, 1) := by decide +kernel
theorem dX0_become_47 : decode cX0_become 47 = .ok (.aload_n 0, 1) := by decide +kernel
theorem dX0_become_48 : decode cX0_become 48 = .ok (.getfield 15, 3) := by decide +kernel
theorem dX0_become_51 : decode cX0_become 51 = .ok (.iconst 0, 1) := by decide +kernel
theorem dX0_become_52 : decode cX0_become 52 = .ok (.bipush 7, 2) := by decide +kernel
theorem dX0_become_54 : decode cX0_become 54 = .ok (.invokestatic 49, 3) := by decide +kernel
theorem dX0_become_57 : decode cX0_become 57 = .ok (.aload_n 1, 1) := by decide +kernel
theorem dX0_become_58 : decode cX0_become 58 = .ok (.getfield 18, 3) := by decide +kernel
theorem dX0_become_61 : decode cX0_become 61 = .ok (.iconst 0, 1) := by decide +kernel
theorem dX0_become_62 : decode cX0_become 62 = .ok (.aload_n 0, 1) := by decide +kernel
theorem dX0_become_63 : decode cX0_become 63 = .ok (.getfield 18, 3) := by decide +kernel
theorem dX0_become_66 : decode cX0_become 66 = .ok (.iconst 0, 1) := by decide +kernel
theorem dX0_become_67 : decode cX0_become 67 = .ok (.bipush 7, 2) := by decide +kernel
theorem dX0_become_69 : decode cX0_become 69 = .ok (.invokestatic 49, 3) := by decide +kernel
theorem dX0_become_72 : decode cX0_become 72 = .ok (.aload_n 1, 1) := by decide +kernel
theorem dX0_become_73 : decode cX0_become 73 = .ok (.getfield 21, 3) := by decide +kernel
theorem dX0_become_76 : decode cX0_become 76 = .ok (.iconst 0, 1) := by decide +kernel
theorem dX0_become_77 : decode cX0_become 77 = .ok (.aload_n 0, 1) := by decide +kernel
theorem dX0_become_78 : decode cX0_become 78 = .ok (.getfield 21, 3) := by decide +kernel
theorem dX0_become_81 : decode cX0_become 81 = .ok (.iconst 0, 1) := by decide +kernel
theorem dX0_become_82 : decode cX0_become 82 = .ok (.bipush 7, 2) := by decide +kernel
theorem dX0_become_84 : decode cX0_become 84 = .ok (.invokestatic 49, 3) := by decide +kernel
theorem dX0_become_87 : decode cX0_become 87 = .ok (.aload_n 1, 1) := by decide +kernel
theorem dX0_become_88 : decode cX0_become 88 = .ok (.getfield 24, 3) := by decide +kernel
theorem dX0_become_91 : decode cX0_become 91 = .ok (.iconst 0, 1) := by decide +kernel
theorem dX0_become_92 : decode cX0_become 92 = .ok (.aload_n 0, 1) := by decide +kernel
theorem dX0_become_93 : decode cX0_become 93 = .ok (.getfield 24, 3) := by decide +kernel
theorem dX0_become_96 : decode cX0_become 96 = .ok (.iconst 0, 1) := by decide +kernel
theorem dX0_become_97 : decode cX0_become 97 = .ok (.bipush 7, 2) := by decide +kernel
theorem dX0_become_99 : decode cX0_become 99 = .ok (.invokestatic 49, 3) := by decide +kernel
theorem dX0_become_102 : decode cX0_become 102 = .ok (.aload_n 1, 1) := by decide +kernel
theorem dX0_become_103 : decode cX0_become 103 = .ok (.getfield 27, 3) := by decide +kernel
theorem dX0_become_106 : decode cX0_become 106 = .ok (.iconst 0, 1) := by decide +kernel
theorem dX0_become_107 : decode cX0_become 107 = .ok (.aload_n 0, 1) := by decide +kernel
theorem dX0_become_108 : decode cX0_become 108 = .ok (.getfield 27, 3) := by decide +kernel
theorem dX0_become_111 : decode cX0_become 111 = .ok (.iconst 0, 1) := by decide +kernel
theorem dX0_become_112 : decode cX0_become 112 = .ok (.bipush 6, 2) := by decide +kernel
theorem dX0_become_114 : decode cX0_become 114 = .ok (.invokestatic 49, 3) := by decide +kernel
theorem dX0_become_117 : decode cX0_become 117 = .ok (.aload_n 1, 1) := by decide +kernel
theorem dX0_become_118 : decode cX0_become 118 = .ok (.getfield 30, 3) := by decide +kernel
theorem dX0_become_121 : decode cX0_become 121 = .ok (.iconst 0, 1) := by decide +kernel
theorem dX0_become_122 : decode cX0_become 122 = .ok (.aload_n 0, 1) := by decide +kernel
theorem dX0_become_123 : decode cX0_become 123 = .ok (.getfield 30, 3) := by decide +kernel
theorem dX0_become_126 : decode cX0_become 126 = .ok (.iconst 0, 1) := by decide +kernel
theorem dX0_become_127 : decode cX0_become 127 = .ok (.bipush 6, 2) := by decide +kernel
theorem dX0_become_129 : decode cX0_become 129 = .ok (.invokestatic 49, 3) := by decide +kernel
theorem dX0_become_132 : decode cX0_become 132 = .ok (.aload_n 1, 1) := by decide +kernel
theorem dX0_become_133 : decode cX0_become 133 = .ok (.getfield 33, 3) := by decide +kernel
theorem dX0_become_136 : decode cX0_become 136 = .ok (.iconst 0, 1) := by decide +kernel
theorem dX0_become_137 : decode cX0_become 137 = .ok (.aload_n 0, 1) := by decide +kernel
theorem dX0_become_138 : decode cX0_become 138 = .ok (.getfield 33, 3) := by decide +kernel
theorem dX0_become_141 : decode cX0_become 141 = .ok (.iconst 0, 1) := by decide +kernel
theorem dX0_become_142 : decode cX0_become 142 = .ok (.bipush 8, 2) := by decide +kernel
theorem dX0_become_144 : decode cX0_become 144 = .ok (.invokestatic 49, 3) := by decide +kernel
theorem dX0_become_147 : decode cX0_become 147 = .ok (.return_, 1) := by decide +kernel
set_option maxRecDepth 20000 in
theorem ggX0_isPerson_X6_isBelow : GoodIn wsX0_isPerson wsX6_isBelow := goodIn_r _ [4] (by decide +kernel) (by decide +kernel)
set_option maxRecDepth 20000 in
theorem gX0_isPerson_X6_isBelow_n55 : GoodIn wsX0_isPerson (wsX6_isBelow) := ggX0_isPerson_X6_isBelow
theorem dX0_isPerson_0 : decode cX0_isPerson 0 = .ok (.iload_n 1, 1) := by decide +kernel
theorem dX0_isPerson_1 : decode cX0_isPerson 1 = .ok (.aload_n 0, 1) := by decide +kernel
theorem dX0_isPerson_2 : decode cX0_isPerson 2 = .ok (.getfield 39, 3) := by decide +kernel
theorem dX0_isPerson_5 : decode cX0_isPerson 5 = .ok (.invokestatic 55, 3) := by decide +kernel
theorem dX0_isPerson_8 : decode cX0_isPerson 8 = .ok (.ireturn, 1) := by decide +kernel
set_option maxRecDepth 20000 in
theorem ggX0_tellWind_X6_isBelow : GoodIn wsX0_tellWind wsX6_isBelow := goodIn_r _ [4] (by decide +kernel) (by decide +kernel)
set_option maxRecDepth 20000 in
theorem gX0_tellWind_X6_isBelow_n55 : GoodIn wsX0_tellWind (wsX6_isBelow) := ggX0_tellWind_X6_isBelow
theorem dX0_tellWind_0 : decode cX0_tellWind 0 = .ok (.iload_n 1, 1) := by decide +kernel
theorem dX0_tellWind_1 : decode cX0_tellWind 1 = .ok (.bipush 6, 2) := by decide +kernel
theorem dX0_tellWind_3 : decode cX0_tellWind 3 = .ok (.invokestatic 55, 3) := by decide +kernel
theorem dX0_tellWind_6 : decode cX0_tellWind 6 = .ok (.ifCond .eq 17, 3) := by decide +kernel
theorem dX0_tellWind_9 : decode cX0_tellWind 9 = .ok (.iload_n 2, 1) := by decide +kernel
theorem dX0_tellWind_10 : decode cX0_tellWind 10 = .ok (.bipush 6, 2) := by decide +kernel
theorem dX0_tellWind_12 : decode cX0_tellWind 12 = .ok (.invokestatic 55, 3) := by decide +kernel
theorem dX0_tellWind_15 : decode cX0_tellWind 15 = .ok (.ifCond .eq 8, 3) := by decide +kernel
theorem dX0_tellWind_18 : decode cX0_tellWind 18 = .ok (.iload_n 1, 1) := by decide +kernel
theorem dX0_tellWind_19 : decode cX0_tellWind 19 = .ok (.iload_n 2, 1) := by decide +kernel
theorem dX0_tellWind_20 : decode cX0_tellWind 20 = .ok (.if_icmp .ne 6, 3) := by decide +kernel
theorem dX0_tellWind_23 : decode cX0_tellWind 23 = .ok (.bipush (-2), 2) := by decide +kernel
theorem dX0_tellWind_25 : decode cX0_tellWind 25 = .ok (.ireturn, 1) := by decide +kernel
theorem dX0_tellWind_26 : decode cX0_tellWind 26 = .ok (.iload_n 3, 1) := by decide +kernel
theorem dX0_tellWind_27 : decode cX0_tellWind 27 = .ok (.iconst (-1), 1) := by decide +kernel
theorem dX0_tellWind_28 : decode cX0_tellWind 28 = .ok (.if_icmp .eq 14, 3) := by decide +kernel
theorem dX0_tellWind_31 : decode cX0_tellWind 31 = .ok (.iload_n 3, 1) := by decide +kernel
theorem dX0_tellWind_32 : decode cX0_tellWind 32 = .ok (.iconst 4, 1) := by decide +kernel
theorem dX0_tellWind_33 : decode cX0_tellWind 33 = .ok (.invokestatic 55, 3) := by decide +kernel
theorem dX0_tellWind_36 : decode cX0_tellWind 36 = .ok (.ifCond .ne 6, 3) := by decide +kernel
theorem dX0_tellWind_39 : decode cX0_tellWind 39 = .ok (.bipush (-2), 2) := by decide +kernel
theorem dX0_tellWind_41 : decode cX0_tellWind 41 = .ok (.ireturn, 1) := by decide +kernel
theorem dX0_tellWind_42 : decode cX0_tellWind 42 = .ok (.aload_n 0, 1) := by decide +kernel
theorem dX0_tellWind_43 : decode cX0_tellWind 43 = .ok (.getfield 9, 3) := by decide +kernel
theorem dX0_tellWind_46 : decode cX0_tellWind 46 = .ok (.iload_n 1, 1) := by decide +kernel
theorem dX0_tellWind_47 : decode cX0_tellWind 47 = .ok (.bipush 6, 2) := by decide +kernel
theorem dX0_tellWind_49 : decode cX0_tellWind 49 = .ok (.imul, 1) := by decide +kernel
theorem dX0_tellWind_50 : decode cX0_tellWind 50 = .ok (.iload_n 2, 1) := by decide +kernel
theorem dX0_tellWind_51 : decode cX0_tellWind 51 = .ok (.iadd, 1) := by decide +kernel
theorem dX0_tellWind_52 : decode cX0_tellWind 52 = .ok (.iaload, 1) := by decide +kernel
theorem dX0_tellWind_53 : decode cX0_tellWind 53 = .ok (.istore 4, 2) := by decide +kernel
theorem dX0_tellWind_55 : decode cX0_tellWind 55 = .ok (.aload_n 0, 1) := by decide +kernel
theorem dX0_tellWind_56 : decode cX0_tellWind 56 = .ok (.getfield 9, 3) := by decide +kernel
theorem dX0_tellWind_59 : decode cX0_tellWind 59 = .ok (.iload_n 1, 1) := by decide +kernel
theorem dX0_tellWind_60 : decode cX0_tellWind 60 = .ok (.bipush 6, 2) := by decide +kernel
theorem dX0_tellWind_62 : decode cX0_tellWind 62 = .ok (.imul, 1) := by decide +kernel
theorem dX0_tellWind_63 : decode cX0_tellWind 63 = .ok (.iload_n 2, 1) := by decide +kernel
theorem dX0_tellWind_64 : decode cX0_tellWind 64 = .ok (.iadd, 1) := by decide +kernel
theorem dX0_tellWind_65 : decode cX0_tellWind 65 = .ok (.iload_n 3, 1) := by decide +kernel
theorem dX0_tellWind_66 : decode cX0_tellWind 66 = .ok (.iastore, 1) := by decide +kernel
theorem dX0_tellWind_67 : decode cX0_tellWind 67 = .ok (.aload_n 0, 1) := by decide +kernel
theorem dX0_tellWind_68 : decode cX0_tellWind 68 = .ok (.getfield 9, 3) := by decide +kernel
theorem dX0_tellWind_71 : decode cX0_tellWind 71 = .ok (.iload_n 2, 1) := by decide +kernel
theorem dX0_tellWind_72 : decode cX0_tellWind 72 = .ok (.bipush 6, 2) := by decide +kernel
theorem dX0_tellWind_74 : decode cX0_tellWind 74 = .ok (.imul, 1) := by decide +kernel
theorem dX0_tellWind_75 : decode cX0_tellWind 75 = .ok (.iload_n 1, 1) := by decide +kernel
theorem dX0_tellWind_76 : decode cX0_tellWind 76 = .ok (.iadd, 1) := by decide +kernel
theorem dX0_tellWind_77 : decode cX0_tellWind 77 = .ok (.iload_n 3, 1) := by decide +kernel
theorem dX0_tellWind_78 : decode cX0_tellWind 78 = .ok (.iastore, 1) := by decide +kernel
theorem dX0_tellWind_79 : decode cX0_tellWind 79 = .ok (.iload 4, 2) := by decide +kernel
theorem dX0_tellWind_81 : decode cX0_tellWind 81 = .ok (.ireturn, 1) := by decide +kernel
set_option maxRecDepth 20000 in
theorem ggX0_tellPerson_X6_isBelow : GoodIn wsX0_tellPerson wsX6_isBelow := goodIn_r _ [8] (by decide +kernel) (by decide +kernel)
set_option maxRecDepth 20000 in
theorem gX0_tellPerson_X6_isBelow_n55 : GoodIn wsX0_tellPerson (wsX6_isBelow) := ggX0_tellPerson_X6_isBelow
set_option maxRecDepth 20000 in
theorem ggX0_tellPerson_X4_isTune : GoodIn wsX0_tellPerson wsX4_isTune := goodIn_r _ [12, 13, 14, 11, 15] (by decide +kernel) (by decide +kernel)
set_option maxRecDepth 20000 in
theorem gX0_tellPerson_X4_isTune : GoodIn wsX0_tellPerson (va_wsS RX0 59 yX4_isTune wsX4_isTune) := goodIn_app (goodIn_of _ (by decide +kernel)) ggX0_tellPerson_X4_isTune
theorem dX0_tellPerson_0 : decode cX0_tellPerson 0 = .ok (.iload_n 1, 1) := by decide +kernel
theorem dX0_tellPerson_1 : decode cX0_tellPerson 1 = .ok (.bipush 6, 2) := by decide +kernel
theorem dX0_tellPerson_3 : decode cX0_tellPerson 3 = .ok (.invokestatic 55, 3) := by decide +kernel
theorem dX0_tellPerson_6 : decode cX0_tellPerson 6 = .ok (.ifCond .eq 10, 3) := by decide +kernel
theorem dX0_tellPerson_9 : decode cX0_tellPerson 9 = .ok (.iload_n 2, 1) := by decide +kernel
theorem dX0_tellPerson_10 : decode cX0_tellPerson 10 = .ok (.invokestatic 59, 3) := by decide +kernel
theorem dX0_tellPerson_13 : decode cX0_tellPerson 13 = .ok (.ifCond .ne 6, 3) := by decide +kernel
theorem dX0_tellPerson_16 : decode cX0_tellPerson 16 = .ok (.bipush (-2), 2) := by decide +kernel
theorem dX0_tellPerson_18 : decode cX0_tellPerson 18 = .ok (.ireturn, 1) := by decide +kernel
theorem dX0_tellPerson_19 : decode cX0_tellPerson 19 = .ok (.iload_n 3, 1) := by decide +kernel
theorem dX0_tellPerson_20 : decode cX0_tellPerson 20 = .ok (.bipush 6, 2) := by decide +kernel
theorem dX0_tellPerson_22 : decode cX0_tellPerson 22 = .ok (.invokestatic 55, 3) := by decide +kernel
theorem dX0_tellPerson_25 : decode cX0_tellPerson 25 = .ok (.ifCond .eq 12, 3) := by decide +kernel
theorem dX0_tellPerson_28 : decode cX0_tellPerson 28 = .ok (.iload 4, 2) := by decide +kernel
theorem dX0_tellPerson_30 : decode cX0_tellPerson 30 = .ok (.iconst 4, 1) := by decide +kernel
theorem dX0_tellPerson_31 : decode cX0_tellPerson 31 = .ok (.invokestatic 55, 3) := by decide +kernel
theorem dX0_tellPerson_34 : decode cX0_tellPerson 34 = .ok (.ifCond .ne 6, 3) := by decide +kernel
theorem dX0_tellPerson_37 : decode cX0_tellPerson 37 = .ok (.bipush (-2), 2) := by decide +kernel
theorem dX0_tellPerson_39 : decode cX0_tellPerson 39 = .ok (.ireturn, 1) := by decide +kernel
theorem dX0_tellPerson_40 : decode cX0_tellPerson 40 = .ok (.aload_n 0, 1) := by decide +kernel
theorem dX0_tellPerson_41 : decode cX0_tellPerson 41 = .ok (.getfield 39, 3) := by decide +kernel
theorem dX0_tellPerson_44 : decode cX0_tellPerson 44 = .ok (.bipush 7, 2) := by decide +kernel
theorem dX0_tellPerson_46 : decode cX0_tellPerson 46 = .ok (.if_icmp .lt 6, 3) := by decide +kernel
theorem dX0_tellPerson_49 : decode cX0_tellPerson 49 = .ok (.bipush (-4), 2) := by decide +kernel
theorem dX0_tellPerson_51 : decode cX0_tellPerson 51 = .ok (.ireturn, 1) := by decide +kernel
theorem dX0_tellPerson_52 : decode cX0_tellPerson 52 = .ok (.aload_n 0, 1) := by decide +kernel
theorem dX0_tellPerson_53 : decode cX0_tellPerson 53 = .ok (.getfield 15, 3) := by decide +kernel
theorem dX0_tellPerson_56 : decode cX0_tellPerson 56 = .ok (.aload_n 0, 1) := by decide +kernel
theorem dX0_tellPerson_57 : decode cX0_tellPerson 57 = .ok (.getfield 39, 3) := by decide +kernel
theorem dX0_tellPerson_60 : decode cX0_tellPerson 60 = .ok (.iload_n 1, 1) := by decide +kernel
theorem dX0_tellPerson_61 : decode cX0_tellPerson 61 = .ok (.iastore, 1) := by decide +kernel
theorem dX0_tellPerson_62 : decode cX0_tellPerson 62 = .ok (.aload_n 0, 1) := by decide +kernel
theorem dX0_tellPerson_63 : decode cX0_tellPerson 63 = .ok (.getfield 18, 3) := by decide +kernel
theorem dX0_tellPerson_66 : decode cX0_tellPerson 66 = .ok (.aload_n 0, 1) := by decide +kernel
theorem dX0_tellPerson_67 : decode cX0_tellPerson 67 = .ok (.getfield 39, 3) := by decide +kernel
theorem dX0_tellPerson_70 : decode cX0_tellPerson 70 = .ok (.iload_n 2, 1) := by decide +kernel
theorem dX0_tellPerson_71 : decode cX0_tellPerson 71 = .ok (.iastore, 1) := by decide +kernel
theorem dX0_tellPerson_72 : decode cX0_tellPerson 72 = .ok (.aload_n 0, 1) := by decide +kernel
theorem dX0_tellPerson_73 : decode cX0_tellPerson 73 = .ok (.getfield 21, 3) := by decide +kernel
theorem dX0_tellPerson_76 : decode cX0_tellPerson 76 = .ok (.aload_n 0, 1) := by decide +kernel
theorem dX0_tellPerson_77 : decode cX0_tellPerson 77 = .ok (.getfield 39, 3) := by decide +kernel
theorem dX0_tellPerson_80 : decode cX0_tellPerson 80 = .ok (.iload_n 3, 1) := by decide +kernel
theorem dX0_tellPerson_81 : decode cX0_tellPerson 81 = .ok (.iastore, 1) := by decide +kernel
theorem dX0_tellPerson_82 : decode cX0_tellPerson 82 = .ok (.aload_n 0, 1) := by decide +kernel
theorem dX0_tellPerson_83 : decode cX0_tellPerson 83 = .ok (.getfield 24, 3) := by decide +kernel
theorem dX0_tellPerson_86 : decode cX0_tellPerson 86 = .ok (.aload_n 0, 1) := by decide +kernel
theorem dX0_tellPerson_87 : decode cX0_tellPerson 87 = .ok (.getfield 39, 3) := by decide +kernel
theorem dX0_tellPerson_90 : decode cX0_tellPerson 90 = .ok (.iload 4, 2) := by decide +kernel
theorem dX0_tellPerson_92 : decode cX0_tellPerson 92 = .ok (.iastore, 1) := by decide +kernel
theorem dX0_tellPerson_93 : decode cX0_tellPerson 93 = .ok (.aload_n 0, 1) := by decide +kernel
theorem dX0_tellPerson_94 : decode cX0_tellPerson 94 = .ok (.dup, 1) := by decide +kernel
theorem dX0_tellPerson_95 : decode cX0_tellPerson 95 = .ok (.getfield 39, 3) := by decide +kernel
theorem dX0_tellPerson_98 : decode cX0_tellPerson 98 = .ok (.iconst 1, 1) := by decide +kernel
theorem dX0_tellPerson_99 : decode cX0_tellPerson 99 = .ok (.iadd, 1) := by decide +kernel
theorem dX0_tellPerson_100 : decode cX0_tellPerson 100 = .ok (.putfield 39, 3) := by decide +kernel
theorem dX0_tellPerson_103 : decode cX0_tellPerson 103 = .ok (.aload_n 0, 1) := by decide +kernel
theorem dX0_tellPerson_104 : decode cX0_tellPerson 104 = .ok (.getfield 39, 3) := by decide +kernel
theorem dX0_tellPerson_107 : decode cX0_tellPerson 107 = .ok (.iconst 1, 1) := by decide +kernel
theorem dX0_tellPerson_108 : decode cX0_tellPerson 108 = .ok (.isub, 1) := by decide +kernel
theorem dX0_tellPerson_109 : decode cX0_tellPerson 109 = .ok (.ireturn, 1) := by decide +kernel
set_option maxRecDepth 20000 in
theorem ggX0_tellDead_X4_isTune : GoodIn wsX0_tellDead wsX4_isTune := goodIn_r _ [7, 8, 9, 6, 10] (by decide +kernel) (by decide +kernel)
set_option maxRecDepth 20000 in
theorem gX0_tellDead_X4_isTune : GoodIn wsX0_tellDead (va_wsS RX0 59 yX4_isTune wsX4_isTune) := goodIn_app (goodIn_of _ (by decide +kernel)) ggX0_tellDead_X4_isTune
set_option maxRecDepth 20000 in
theorem ggX0_tellDead_X6_isBelow : GoodIn wsX0_tellDead wsX6_isBelow := goodIn_r _ [13] (by decide +kernel) (by decide +kernel)
set_option maxRecDepth 20000 in
theorem gX0_tellDead_X6_isBelow_n55 : GoodIn wsX0_tellDead (wsX6_isBelow) := ggX0_tellDead_X6_isBelow
theorem dX0_tellDead_0 : decode cX0_tellDead 0 = .ok (.iload_n 1, 1) := by decide +kernel
theorem dX0_tellDead_1 : decode cX0_tellDead 1 = .ok (.invokestatic 59, 3) := by decide +kernel
theorem dX0_tellDead_4 : decode cX0_tellDead 4 = .ok (.ifCond .eq 12, 3) := by decide +kernel
theorem dX0_tellDead_7 : decode cX0_tellDead 7 = .ok (.iload_n 2, 1) := by decide +kernel
theorem dX0_tellDead_8 : decode cX0_tellDead 8 = .ok (.bipush 100, 2) := by decide +kernel
theorem dX0_tellDead_10 : decode cX0_tellDead 10 = .ok (.invokestatic 55, 3) := by decide +kernel
theorem dX0_tellDead_13 : decode cX0_tellDead 13 = .ok (.ifCond .ne 6, 3) := by decide +kernel
theorem dX0_tellDead_16 : decode cX0_tellDead 16 = .ok (.bipush (-2), 2) := by decide +kernel
theorem dX0_tellDead_18 : decode cX0_tellDead 18 = .ok (.ireturn, 1) := by decide +kernel
theorem dX0_tellDead_19 : decode cX0_tellDead 19 = .ok (.aload_n 0, 1) := by decide +kernel
theorem dX0_tellDead_20 : decode cX0_tellDead 20 = .ok (.getfield 43, 3) := by decide +kernel
theorem dX0_tellDead_23 : decode cX0_tellDead 23 = .ok (.bipush 6, 2) := by decide +kernel
theorem dX0_tellDead_25 : decode cX0_tellDead 25 = .ok (.if_icmp .lt 6, 3) := by decide +kernel
theorem dX0_tellDead_28 : decode cX0_tellDead 28 = .ok (.bipush (-4), 2) := by decide +kernel
theorem dX0_tellDead_30 : decode cX0_tellDead 30 = .ok (.ireturn, 1) := by decide +kernel
theorem dX0_tellDead_31 : decode cX0_tellDead 31 = .ok (.aload_n 0, 1) := by decide +kernel
theorem dX0_tellDead_32 : decode cX0_tellDead 32 = .ok (.getfield 27, 3) := by decide +kernel
theorem dX0_tellDead_35 : decode cX0_tellDead 35 = .ok (.aload_n 0, 1) := by decide +kernel
theorem dX0_tellDead_36 : decode cX0_tellDead 36 = .ok (.getfield 43, 3) := by decide +kernel
theorem dX0_tellDead_39 : decode cX0_tellDead 39 = .ok (.iload_n 1, 1) := by decide +kernel
theorem dX0_tellDead_40 : decode cX0_tellDead 40 = .ok (.iastore, 1) := by decide +kernel
theorem dX0_tellDead_41 : decode cX0_tellDead 41 = .ok (.aload_n 0, 1) := by decide +kernel
theorem dX0_tellDead_42 : decode cX0_tellDead 42 = .ok (.getfield 30, 3) := by decide +kernel
theorem dX0_tellDead_45 : decode cX0_tellDead 45 = .ok (.aload_n 0, 1) := by decide +kernel
theorem dX0_tellDead_46 : decode cX0_tellDead 46 = .ok (.getfield 43, 3) := by decide +kernel
theorem dX0_tellDead_49 : decode cX0_tellDead 49 = .ok (.iload_n 2, 1) := by decide +kernel
theorem dX0_tellDead_50 : decode cX0_tellDead 50 = .ok (.iastore, 1) := by decide +kernel
theorem dX0_tellDead_51 : decode cX0_tellDead 51 = .ok (.aload_n 0, 1) := by decide +kernel
theorem dX0_tellDead_52 : decode cX0_tellDead 52 = .ok (.dup, 1) := by decide +kernel
theorem dX0_tellDead_53 : decode cX0_tellDead 53 = .ok (.getfield 43, 3) := by decide +kernel
theorem dX0_tellDead_56 : decode cX0_tellDead 56 = .ok (.iconst 1, 1) := by decide +kernel
theorem dX0_tellDead_57 : decode cX0_tellDead 57 = .ok (.iadd, 1) := by decide +kernel
theorem dX0_tellDead_58 : decode cX0_tellDead 58 = .ok (.putfield 43, 3) := by decide +kernel
theorem dX0_tellDead_61 : decode cX0_tellDead 61 = .ok (.aload_n 0, 1) := by decide +kernel
theorem dX0_tellDead_62 : decode cX0_tellDead 62 = .ok (.getfield 43, 3) := by decide +kernel
theorem dX0_tellDead_65 : decode cX0_tellDead 65 = .ok (.iconst 1, 1) := by decide +kernel
theorem dX0_tellDead_66 : decode cX0_tellDead 66 = .ok (.isub, 1) := by decide +kernel
theorem dX0_tellDead_67 : decode cX0_tellDead 67 = .ok (.ireturn, 1) := by decide +kernel
theorem dX0_greatestSharedWind_0 : decode cX0_greatestSharedWind 0 = .ok (.iconst (-1), 1) := by decide +kernel
theorem dX0_greatestSharedWind_1 : decode cX0_greatestSharedWind 1 = .ok (.istore_n 3, 1) := by decide +kernel
theorem dX0_greatestSharedWind_2 : decode cX0_greatestSharedWind 2 = .ok (.iconst 0, 1) := by decide +kernel
theorem dX0_greatestSharedWind_3 : decode cX0_greatestSharedWind 3 = .ok (.istore 4, 2) := by decide +kernel
theorem dX0_greatestSharedWind_5 : decode cX0_greatestSharedWind 5 = .ok (.iload 4, 2) := by decide +kernel
theorem dX0_greatestSharedWind_7 : decode cX0_greatestSharedWind 7 = .ok (.bipush 6, 2) := by decide +kernel
theorem dX0_greatestSharedWind_9 : decode cX0_greatestSharedWind 9 = .ok (.if_icmp .ge 59, 3) := by decide +kernel
theorem dX0_greatestSharedWind_12 : decode cX0_greatestSharedWind 12 = .ok (.aload_n 0, 1) := by decide +kernel
theorem dX0_greatestSharedWind_13 : decode cX0_greatestSharedWind 13 = .ok (.getfield 9, 3) := by decide +kernel
theorem dX0_greatestSharedWind_16 : decode cX0_greatestSharedWind 16 = .ok (.iload 4, 2) := by decide +kernel
theorem dX0_greatestSharedWind_18 : decode cX0_greatestSharedWind 18 = .ok (.bipush 6, 2) := by decide +kernel
theorem dX0_greatestSharedWind_20 : decode cX0_greatestSharedWind 20 = .ok (.imul, 1) := by decide +kernel
theorem dX0_greatestSharedWind_21 : decode cX0_greatestSharedWind 21 = .ok (.aload_n 0, 1) := by decide +kernel
theorem dX0_greatestSharedWind_22 : decode cX0_greatestSharedWind 22 = .ok (.getfield 21, 3) := by decide +kernel
theorem dX0_greatestSharedWind_25 : decode cX0_greatestSharedWind 25 = .ok (.iload_n 1, 1) := by decide +kernel
theorem dX0_greatestSharedWind_26 : decode cX0_greatestSharedWind 26 = .ok (.iaload, 1) := by decide +kernel
theorem dX0_greatestSharedWind_27 : decode cX0_greatestSharedWind 27 = .ok (.iadd, 1) := by decide +kernel
theorem dX0_greatestSharedWind_28 : decode cX0_greatestSharedWind 28 = .ok (.iaload, 1) := by decide +kernel
theorem dX0_greatestSharedWind_29 : decode cX0_greatestSharedWind 29 = .ok (.istore 5, 2) := by decide +kernel
theorem dX0_greatestSharedWind_31 : decode cX0_greatestSharedWind 31 = .ok (.aload_n 0, 1) := by decide +kernel
theorem dX0_greatestSharedWind_32 : decode cX0_greatestSharedWind 32 = .ok (.getfield 9, 3) := by decide +kernel
theorem dX0_greatestSharedWind_35 : decode cX0_greatestSharedWind 35 = .ok (.iload 4, 2) := by decide +kernel
theorem dX0_greatestSharedWind_37 : decode cX0_greatestSharedWind 37 = .ok (.bipush 6, 2) := by decide +kernel
theorem dX0_greatestSharedWind_39 : decode cX0_greatestSharedWind 39 = .ok (.imul, 1) := by decide +kernel
theorem dX0_greatestSharedWind_40 : decode cX0_greatestSharedWind 40 = .ok (.aload_n 0, 1) := by decide +kernel
theorem dX0_greatestSharedWind_41 : decode cX0_greatestSharedWind 41 = .ok (.getfield 21, 3) := by decide +kernel
theorem dX0_greatestSharedWind_44 : decode cX0_greatestSharedWind 44 = .ok (.iload_n 2, 1) := by decide +kernel
theorem dX0_greatestSharedWind_45 : decode cX0_greatestSharedWind 45 = .ok (.iaload, 1) := by decide +kernel
theorem dX0_greatestSharedWind_46 : decode cX0_greatestSharedWind 46 = .ok (.iadd, 1) := by decide +kernel
theorem dX0_greatestSharedWind_47 : decode cX0_greatestSharedWind 47 = .ok (.iaload, 1) := by decide +kernel
theorem dX0_greatestSharedWind_48 : decode cX0_greatestSharedWind 48 = .ok (.istore 6, 2) := by decide +kernel
theorem dX0_greatestSharedWind_50 : decode cX0_greatestSharedWind 50 = .ok (.iload_n 3, 1) := by decide +kernel
theorem dX0_greatestSharedWind_51 : decode cX0_greatestSharedWind 51 = .ok (.iload 5, 2) := by decide +kernel
theorem dX0_greatestSharedWind_53 : decode cX0_greatestSharedWind 53 = .ok (.iload 6, 2) := by decide +kernel
theorem dX0_greatestSharedWind_55 : decode cX0_greatestSharedWind 55 = .ok (.invokestatic 65, 3) := by decide +kernel
theorem dX0_greatestSharedWind_58 : decode cX0_greatestSharedWind 58 = .ok (.invokestatic 71, 3) := by decide +kernel
theorem dX0_greatestSharedWind_61 : decode cX0_greatestSharedWind 61 = .ok (.istore_n 3, 1) := by decide +kernel
theorem dX0_greatestSharedWind_62 : decode cX0_greatestSharedWind 62 = .ok (.iinc 4 1, 3) := by decide +kernel
theorem dX0_greatestSharedWind_65 : decode cX0_greatestSharedWind 65 = .ok (.goto (-60), 3) := by decide +kernel
theorem dX0_greatestSharedWind_68 : decode cX0_greatestSharedWind 68 = .ok (.iload_n 3, 1) := by decide +kernel
theorem dX0_greatestSharedWind_69 : decode cX0_greatestSharedWind 69 = .ok (.ireturn, 1) := by decide +kernel
theorem dX0_digestOn_0 : decode cX0_digestOn 0 = .ok (.iconst 1, 1) := by decide +kernel
theorem dX0_digestOn_1 : decode cX0_digestOn 1 = .ok (.istore_n 3, 1) := by decide +kernel
theorem dX0_digestOn_2 : decode cX0_digestOn 2 = .ok (.iload_n 3, 1) := by decide +kernel
theorem dX0_digestOn_3 : decode cX0_digestOn 3 = .ok (.bipush 6, 2) := by decide +kernel
theorem dX0_digestOn_5 : decode cX0_digestOn 5 = .ok (.if_icmp .ge 44, 3) := by decide +kernel
theorem dX0_digestOn_8 : decode cX0_digestOn 8 = .ok (.iconst 0, 1) := by decide +kernel
theorem dX0_digestOn_9 : decode cX0_digestOn 9 = .ok (.istore 4, 2) := by decide +kernel
theorem dX0_digestOn_11 : decode cX0_digestOn 11 = .ok (.iload 4, 2) := by decide +kernel
theorem dX0_digestOn_13 : decode cX0_digestOn 13 = .ok (.iload_n 3, 1) := by decide +kernel
theorem dX0_digestOn_14 : decode cX0_digestOn 14 = .ok (.if_icmp .ge 29, 3) := by decide +kernel
theorem dX0_digestOn_17 : decode cX0_digestOn 17 = .ok (.ldc2_w 74, 3) := by decide +kernel
theorem dX0_digestOn_20 : decode cX0_digestOn 20 = .ok (.lload_n 1, 1) := by decide +kernel
theorem dX0_digestOn_21 : decode cX0_digestOn 21 = .ok (.lmul, 1) := by decide +kernel
theorem dX0_digestOn_22 : decode cX0_digestOn 22 = .ok (.aload_n 0, 1) := by decide +kernel
theorem dX0_digestOn_23 : decode cX0_digestOn 23 = .ok (.getfield 9, 3) := by decide +kernel
theorem dX0_digestOn_26 : decode cX0_digestOn 26 = .ok (.iload_n 3, 1) := by decide +kernel
theorem dX0_digestOn_27 : decode cX0_digestOn 27 = .ok (.bipush 6, 2) := by decide +kernel
theorem dX0_digestOn_29 : decode cX0_digestOn 29 = .ok (.imul, 1) := by decide +kernel
theorem dX0_digestOn_30 : decode cX0_digestOn 30 = .ok (.iload 4, 2) := by decide +kernel
theorem dX0_digestOn_32 : decode cX0_digestOn 32 = .ok (.iadd, 1) := by decide +kernel
theorem dX0_digestOn_33 : decode cX0_digestOn 33 = .ok (.iaload, 1) := by decide +kernel
theorem dX0_digestOn_34 : decode cX0_digestOn 34 = .ok (.i2l, 1) := by decide +kernel
theorem dX0_digestOn_35 : decode cX0_digestOn 35 = .ok (.ladd, 1) := by decide +kernel
theorem dX0_digestOn_36 : decode cX0_digestOn 36 = .ok (.lstore_n 1, 1) := by decide +kernel
theorem dX0_digestOn_37 : decode cX0_digestOn 37 = .ok (.iinc 4 1, 3) := by decide +kernel
theorem dX0_digestOn_40 : decode cX0_digestOn 40 = .ok (.goto (-29), 3) := by decide +kernel
theorem dX0_digestOn_43 : decode cX0_digestOn 43 = .ok (.iinc 3 1, 3) := by decide +kernel
theorem dX0_digestOn_46 : decode cX0_digestOn 46 = .ok (.goto (-44), 3) := by decide +kernel
theorem dX0_digestOn_49 : decode cX0_digestOn 49 = .ok (.iconst 0, 1) := by decide +kernel
theorem dX0_digestOn_50 : decode cX0_digestOn 50 = .ok (.istore_n 3, 1) := by decide +kernel
theorem dX0_digestOn_51 : decode cX0_digestOn 51 = .ok (.iload_n 3, 1) := by decide +kernel
theorem dX0_digestOn_52 : decode cX0_digestOn 52 = .ok (.aload_n 0, 1) := by decide +kernel
theorem dX0_digestOn_53 : decode cX0_digestOn 53 = .ok (.getfield 39, 3) := by decide +kernel
theorem dX0_digestOn_56 : decode cX0_digestOn 56 = .ok (.if_icmp .ge 65, 3) := by decide +kernel
theorem dX0_digestOn_59 : decode cX0_digestOn 59 = .ok (.ldc2_w 74, 3) := by decide +kernel
theorem dX0_digestOn_62 : decode cX0_digestOn 62 = .ok (.lload_n 1, 1) := by decide +kernel
theorem dX0_digestOn_63 : decode cX0_digestOn 63 = .ok (.lmul, 1) := by decide +kernel
theorem dX0_digestOn_64 : decode cX0_digestOn 64 = .ok (.aload_n 0, 1) := by decide +kernel
theorem dX0_digestOn_65 : decode cX0_digestOn 65 = .ok (.getfield 15, 3) := by decide +kernel
theorem dX0_digestOn_68 : decode cX0_digestOn 68 = .ok (.iload_n 3, 1) := by decide +kernel
theorem dX0_digestOn_69 : decode cX0_digestOn 69 = .ok (.iaload, 1) := by decide +kernel
theorem dX0_digestOn_70 : decode cX0_digestOn 70 = .ok (.i2l, 1) := by decide +kernel
theorem dX0_digestOn_71 : decode cX0_digestOn 71 = .ok (.ladd, 1) := by decide +kernel
theorem dX0_digestOn_72 : decode cX0_digestOn 72 = .ok (.lstore_n 1, 1) := by decide +kernel
theorem dX0_digestOn_73 : decode cX0_digestOn 73 = .ok (.ldc2_w 74, 3) := by decide +kernel
theorem dX0_digestOn_76 : decode cX0_digestOn 76 = .ok (.lload_n 1, 1) := by decide +kernel
theorem dX0_digestOn_77 : decode cX0_digestOn 77 = .ok (.lmul, 1) := by decide +kernel
theorem dX0_digestOn_78 : decode cX0_digestOn 78 = .ok (.aload_n 0, 1) := by decide +kernel
theorem dX0_digestOn_79 : decode cX0_digestOn 79 = .ok (.getfield 18, 3) := by decide +kernel
theorem dX0_digestOn_82 : decode cX0_digestOn 82 = .ok (.iload_n 3, 1) := by decide +kernel
theorem dX0_digestOn_83 : decode cX0_digestOn 83 = .ok (.iaload, 1) := by decide +kernel
theorem dX0_digestOn_84 : decode cX0_digestOn 84 = .ok (.i2l, 1) := by decide +kernel
theorem dX0_digestOn_85 : decode cX0_digestOn 85 = .ok (.ladd, 1) := by decide +kernel
theorem dX0_digestOn_86 : decode cX0_digestOn 86 = .ok (.lstore_n 1, 1) := by decide +kernel
theorem dX0_digestOn_87 : decode cX0_digestOn 87 = .ok (.ldc2_w 74, 3) := by decide +kernel
theorem dX0_digestOn_90 : decode cX0_digestOn 90 = .ok (.lload_n 1, 1) := by decide +kernel
theorem dX0_digestOn_91 : decode cX0_digestOn 91 = .ok (.lmul, 1) := by decide +kernel
theorem dX0_digestOn_92 : decode cX0_digestOn 92 = .ok (.aload_n 0, 1) := by decide +kernel
theorem dX0_digestOn_93 : decode cX0_digestOn 93 = .ok (.getfield 21, 3) := by decide +kernel
theorem dX0_digestOn_96 : decode cX0_digestOn 96 = .ok (.iload_n 3, 1) := by decide +kernel
theorem dX0_digestOn_97 : decode cX0_digestOn 97 = .ok (.iaload, 1) := by decide +kernel
theorem dX0_digestOn_98 : decode cX0_digestOn 98 = .ok (.i2l, 1) := by decide +kernel
theorem dX0_digestOn_99 : decode cX0_digestOn 99 = .ok (.ladd, 1) := by decide +kernel
theorem dX0_digestOn_100 : decode cX0_digestOn 100 = .ok (.lstore_n 1, 1) := by decide +kernel
theorem dX0_digestOn_101 : decode cX0_digestOn 101 = .ok (.ldc2_w 74, 3) := by decide +kernel
theorem dX0_digestOn_104 : decode cX0_digestOn 104 = .ok (.lload_n 1, 1) := by decide +kernel
theorem dX0_digestOn_105 : decode cX0_digestOn 105 = .ok (.lmul, 1) := by decide +kernel
theorem dX0_digestOn_106 : decode cX0_digestOn 106 = .ok (.aload_n 0, 1) := by decide +kernel
theorem dX0_digestOn_107 : decode cX0_digestOn 107 = .ok (.getfield 24, 3) := by decide +kernel
theorem dX0_digestOn_110 : decode cX0_digestOn 110 = .ok (.iload_n 3, 1) := by decide +kernel
theorem dX0_digestOn_111 : decode cX0_digestOn 111 = .ok (.iaload, 1) := by decide +kernel
theorem dX0_digestOn_112 : decode cX0_digestOn 112 = .ok (.i2l, 1) := by decide +kernel
theorem dX0_digestOn_113 : decode cX0_digestOn 113 = .ok (.ladd, 1) := by decide +kernel
theorem dX0_digestOn_114 : decode cX0_digestOn 114 = .ok (.lstore_n 1, 1) := by decide +kernel
theorem dX0_digestOn_115 : decode cX0_digestOn 115 = .ok (.iinc 3 1, 3) := by decide +kernel
theorem dX0_digestOn_118 : decode cX0_digestOn 118 = .ok (.goto (-67), 3) := by decide +kernel
theorem dX0_digestOn_121 : decode cX0_digestOn 121 = .ok (.iconst 0, 1) := by decide +kernel
theorem dX0_digestOn_122 : decode cX0_digestOn 122 = .ok (.istore_n 3, 1) := by decide +kernel
theorem dX0_digestOn_123 : decode cX0_digestOn 123 = .ok (.iload_n 3, 1) := by decide +kernel
theorem dX0_digestOn_124 : decode cX0_digestOn 124 = .ok (.aload_n 0, 1) := by decide +kernel
theorem dX0_digestOn_125 : decode cX0_digestOn 125 = .ok (.getfield 43, 3) := by decide +kernel
theorem dX0_digestOn_128 : decode cX0_digestOn 128 = .ok (.if_icmp .ge 37, 3) := by decide +kernel
theorem dX0_digestOn_131 : decode cX0_digestOn 131 = .ok (.ldc2_w 74, 3) := by decide +kernel
theorem dX0_digestOn_134 : decode cX0_digestOn 134 = .ok (.lload_n 1, 1) := by decide +kernel
theorem dX0_digestOn_135 : decode cX0_digestOn 135 = .ok (.lmul, 1) := by decide +kernel
theorem dX0_digestOn_136 : decode cX0_digestOn 136 = .ok (.aload_n 0, 1) := by decide +kernel
theorem dX0_digestOn_137 : decode cX0_digestOn 137 = .ok (.getfield 27, 3) := by decide +kernel
theorem dX0_digestOn_140 : decode cX0_digestOn 140 = .ok (.iload_n 3, 1) := by decide +kernel
theorem dX0_digestOn_141 : decode cX0_digestOn 141 = .ok (.iaload, 1) := by decide +kernel
theorem dX0_digestOn_142 : decode cX0_digestOn 142 = .ok (.i2l, 1) := by decide +kernel
theorem dX0_digestOn_143 : decode cX0_digestOn 143 = .ok (.ladd, 1) := by decide +kernel
theorem dX0_digestOn_144 : decode cX0_digestOn 144 = .ok (.lstore_n 1, 1) := by decide +kernel
theorem dX0_digestOn_145 : decode cX0_digestOn 145 = .ok (.ldc2_w 74, 3) := by decide +kernel
theorem dX0_digestOn_148 : decode cX0_digestOn 148 = .ok (.lload_n 1, 1) := by decide +kernel
theorem dX0_digestOn_149 : decode cX0_digestOn 149 = .ok (.lmul, 1) := by decide +kernel
theorem dX0_digestOn_150 : decode cX0_digestOn 150 = .ok (.aload_n 0, 1) := by decide +kernel
theorem dX0_digestOn_151 : decode cX0_digestOn 151 = .ok (.getfield 30, 3) := by decide +kernel
theorem dX0_digestOn_154 : decode cX0_digestOn 154 = .ok (.iload_n 3, 1) := by decide +kernel
theorem dX0_digestOn_155 : decode cX0_digestOn 155 = .ok (.iaload, 1) := by decide +kernel
theorem dX0_digestOn_156 : decode cX0_digestOn 156 = .ok (.i2l, 1) := by decide +kernel
theorem dX0_digestOn_157 : decode cX0_digestOn 157 = .ok (.ladd, 1) := by decide +kernel
theorem dX0_digestOn_158 : decode cX0_digestOn 158 = .ok (.lstore_n 1, 1) := by decide +kernel
theorem dX0_digestOn_159 : decode cX0_digestOn 159 = .ok (.iinc 3 1, 3) := by decide +kernel
theorem dX0_digestOn_162 : decode cX0_digestOn 162 = .ok (.goto (-39), 3) := by decide +kernel
theorem dX0_digestOn_165 : decode cX0_digestOn 165 = .ok (.iconst 0, 1) := by decide +kernel
theorem dX0_digestOn_166 : decode cX0_digestOn 166 = .ok (.istore_n 3, 1) := by decide +kernel
theorem dX0_digestOn_167 : decode cX0_digestOn 167 = .ok (.iload_n 3, 1) := by decide +kernel
theorem dX0_digestOn_168 : decode cX0_digestOn 168 = .ok (.aload_n 0, 1) := by decide +kernel
theorem dX0_digestOn_169 : decode cX0_digestOn 169 = .ok (.getfield 46, 3) := by decide +kernel
theorem dX0_digestOn_172 : decode cX0_digestOn 172 = .ok (.if_icmp .ge 23, 3) := by decide +kernel
theorem dX0_digestOn_175 : decode cX0_digestOn 175 = .ok (.ldc2_w 74, 3) := by decide +kernel
theorem dX0_digestOn_178 : decode cX0_digestOn 178 = .ok (.lload_n 1, 1) := by decide +kernel
theorem dX0_digestOn_179 : decode cX0_digestOn 179 = .ok (.lmul, 1) := by decide +kernel
theorem dX0_digestOn_180 : decode cX0_digestOn 180 = .ok (.aload_n 0, 1) := by decide +kernel
theorem dX0_digestOn_181 : decode cX0_digestOn 181 = .ok (.getfield 33, 3) := by decide +kernel
theorem dX0_digestOn_184 : decode cX0_digestOn 184 = .ok (.iload_n 3, 1) := by decide +kernel
theorem dX0_digestOn_185 : decode cX0_digestOn 185 = .ok (.iaload, 1) := by decide +kernel
theorem dX0_digestOn_186 : decode cX0_digestOn 186 = .ok (.i2l, 1) := by decide +kernel
theorem dX0_digestOn_187 : decode cX0_digestOn 187 = .ok (.ladd, 1) := by decide +kernel
theorem dX0_digestOn_188 : decode cX0_digestOn 188 = .ok (.lstore_n 1, 1) := by decide +kernel
theorem dX0_digestOn_189 : decode cX0_digestOn 189 = .ok (.iinc 3 1, 3) := by decide +kernel
theorem dX0_digestOn_192 : decode cX0_digestOn 192 = .ok (.goto (-25), 3) := by decide +kernel
theorem dX0_digestOn_195 : decode cX0_digestOn 195 = .ok (.lload_n 1, 1) := by decide +kernel
theorem dX0_digestOn_196 : decode cX0_digestOn 196 = .ok (.lreturn, 1) := by decide +kernel
theorem dX1_init_0 : decode cX1_init 0 = .ok (.aload_n 0, 1) := by decide +kernel
theorem dX1_init_1 : decode cX1_init 1 = .ok (.invokespecial 3, 3) := by decide +kernel
theorem dX1_init_4 : decode cX1_init 4 = .ok (.return_, 1) := by decide +kernel
set_option maxRecDepth 20000 in
theorem ggX1_makeReady_X4_firstHalf : GoodIn wsX1_makeReady wsX4_firstHalf := goodIn_r _ [8, 9, 10, 7, 11] (by decide +kernel) (by decide +kernel)
set_option maxRecDepth 20000 in
theorem gX1_makeReady_X4_firstHalf : GoodIn wsX1_makeReady (va_wsS RX1 18 yX4_firstHalf wsX4_firstHalf) := goodIn_app (goodIn_of _ (by decide +kernel)) ggX1_makeReady_X4_firstHalf
set_option maxRecDepth 20000 in
theorem ggX1_makeReady_X4_lessLost : GoodIn wsX1_makeReady wsX4_lessLost := goodIn_r _ [14, 9, 10, 7, 11] (by decide +kernel) (by decide +kernel)
set_option maxRecDepth 20000 in
theorem gX1_makeReady_X4_lessLost : GoodIn wsX1_makeReady (va_wsS RX1 24 yX4_lessLost wsX4_lessLost) := goodIn_app (goodIn_of _ (by decide +kernel)) ggX1_makeReady_X4_lessLost
theorem dX1_makeReady_0 : decode cX1_makeReady 0 = .ok (.aload_n 0, 1) := by decide +kernel
theorem dX1_makeReady_1 : decode cX1_makeReady 1 = .ok (.iload_n 1, 1) := by decide +kernel
theorem dX1_makeReady_2 : decode cX1_makeReady 2 = .ok (.putfield 9, 3) := by decide +kernel
theorem dX1_makeReady_5 : decode cX1_makeReady 5 = .ok (.aload_n 0, 1) := by decide +kernel
theorem dX1_makeReady_6 : decode cX1_makeReady 6 = .ok (.iload_n 2, 1) := by decide +kernel
theorem dX1_makeReady_7 : decode cX1_makeReady 7 = .ok (.putfield 15, 3) := by decide +kernel
theorem dX1_makeReady_10 : decode cX1_makeReady 10 = .ok (.aload_n 0, 1) := by decide +kernel
theorem dX1_makeReady_11 : decode cX1_makeReady 11 = .ok (.getfield 9, 3) := by decide +kernel
theorem dX1_makeReady_14 : decode cX1_makeReady 14 = .ok (.iconst 2, 1) := by decide +kernel
theorem dX1_makeReady_15 : decode cX1_makeReady 15 = .ok (.if_icmp .eq 11, 3) := by decide +kernel
theorem dX1_makeReady_18 : decode cX1_makeReady 18 = .ok (.aload_n 0, 1) := by decide +kernel
theorem dX1_makeReady_19 : decode cX1_makeReady 19 = .ok (.getfield 9, 3) := by decide +kernel
theorem dX1_makeReady_22 : decode cX1_makeReady 22 = .ok (.iconst 5, 1) := by decide +kernel
theorem dX1_makeReady_23 : decode cX1_makeReady 23 = .ok (.if_icmp .ne 7, 3) := by decide +kernel
theorem dX1_makeReady_26 : decode cX1_makeReady 26 = .ok (.iconst 1, 1) := by decide +kernel
theorem dX1_makeReady_27 : decode cX1_makeReady 27 = .ok (.goto 4, 3) := by decide +kernel
theorem dX1_makeReady_30 : decode cX1_makeReady 30 = .ok (.iconst 0, 1) := by decide +kernel
theorem dX1_makeReady_31 : decode cX1_makeReady 31 = .ok (.istore 4, 2) := by decide +kernel
theorem dX1_makeReady_33 : decode cX1_makeReady 33 = .ok (.aload_n 0, 1) := by decide +kernel
theorem dX1_makeReady_34 : decode cX1_makeReady 34 = .ok (.iload 4, 2) := by decide +kernel
theorem dX1_makeReady_36 : decode cX1_makeReady 36 = .ok (.ifCond .eq 13, 3) := by decide +kernel
theorem dX1_makeReady_39 : decode cX1_makeReady 39 = .ok (.aload_n 0, 1) := by decide +kernel
theorem dX1_makeReady_40 : decode cX1_makeReady 40 = .ok (.getfield 15, 3) := by decide +kernel
theorem dX1_makeReady_43 : decode cX1_makeReady 43 = .ok (.invokestatic 18, 3) := by decide +kernel
theorem dX1_makeReady_46 : decode cX1_makeReady 46 = .ok (.goto 7, 3) := by decide +kernel
theorem dX1_makeReady_49 : decode cX1_makeReady 49 = .ok (.aload_n 0, 1) := by decide +kernel
theorem dX1_makeReady_50 : decode cX1_makeReady 50 = .ok (.getfield 15, 3) := by decide +kernel
theorem dX1_makeReady_53 : decode cX1_makeReady 53 = .ok (.iload_n 3, 1) := by decide +kernel
theorem dX1_makeReady_54 : decode cX1_makeReady 54 = .ok (.invokestatic 24, 3) := by decide +kernel
theorem dX1_makeReady_57 : decode cX1_makeReady 57 = .ok (.putfield 28, 3) := by decide +kernel
theorem dX1_makeReady_60 : decode cX1_makeReady 60 = .ok (.aload_n 0, 1) := by decide +kernel
theorem dX1_makeReady_61 : decode cX1_makeReady 61 = .ok (.aload_n 0, 1) := by decide +kernel
theorem dX1_makeReady_62 : decode cX1_makeReady 62 = .ok (.getfield 9, 3) := by decide +kernel
theorem dX1_makeReady_65 : decode cX1_makeReady 65 = .ok (.iconst 5, 1) := by decide +kernel
theorem dX1_makeReady_66 : decode cX1_makeReady 66 = .ok (.if_icmp .ne 12, 3) := by decide +kernel
theorem dX1_makeReady_69 : decode cX1_makeReady 69 = .ok (.iload_n 3, 1) := by decide +kernel
theorem dX1_makeReady_70 : decode cX1_makeReady 70 = .ok (.iconst 1, 1) := by decide +kernel
theorem dX1_makeReady_71 : decode cX1_makeReady 71 = .ok (.if_icmp .le 7, 3) := by decide +kernel
theorem dX1_makeReady_74 : decode cX1_makeReady 74 = .ok (.iconst 1, 1) := by decide +kernel
theorem dX1_makeReady_75 : decode cX1_makeReady 75 = .ok (.goto 4, 3) := by decide +kernel
theorem dX1_makeReady_78 : decode cX1_makeReady 78 = .ok (.iconst 0, 1) := by decide +kernel
theorem dX1_makeReady_79 : decode cX1_makeReady 79 = .ok (.putfield 31, 3) := by decide +kernel
theorem dX1_makeReady_82 : decode cX1_makeReady 82 = .ok (.return_, 1) := by decide +kernel
theorem dX1_fallAsleep_0 : decode cX1_fallAsleep 0 = .ok (.aload_n 0, 1) := by decide +kernel
theorem dX1_fallAsleep_1 : decode cX1_fallAsleep 1 = .ok (.iconst 1, 1) := by decide +kernel
theorem dX1_fallAsleep_2 : decode cX1_fallAsleep 2 = .ok (.putfield 31, 3) := by decide +kernel
theorem dX1_fallAsleep_5 : decode cX1_fallAsleep 5 = .ok (.return_, 1) := by decide +kernel
set_option maxRecDepth 20000 in
theorem ggX1_turnsAt_X1_turnsLisping : GoodIn wsX1_turnsAt wsX1_turnsLisping := goodIn_r _ [9, 4, 10, 11, 12, 13, 24, 25, 26, 27] (by decide +kernel) (by decide +kernel)
set_option maxRecDepth 20000 in
theorem gX1_turnsAt_X1_turnsLisping : GoodIn wsX1_turnsAt (wsV RX1 35 RX1 yX1_turnsLisping wsX1_turnsLisping) := goodIn_app (goodIn_of _ (by decide +kernel)) ggX1_turnsAt_X1_turnsLisping
set_option maxRecDepth 20000 in
theorem ggX1_turnsAt_X1_mocks : GoodIn wsX1_turnsAt wsX1_mocks := goodIn_r _ [17, 4, 18, 19, 12, 20, 24, 25, 26, 27] (by decide +kernel) (by decide +kernel)
set_option maxRecDepth 20000 in
theorem gX1_turnsAt_X1_mocks : GoodIn wsX1_turnsAt (wsV RX1 39 RX1 yX1_mocks wsX1_mocks) := goodIn_app (goodIn_of _ (by decide +kernel)) ggX1_turnsAt_X1_mocks
set_option maxRecDepth 20000 in
theorem ggX1_turnsAt_X4_begins : GoodIn wsX1_turnsAt wsX4_begins := goodIn_r _ [23] (by decide +kernel) (by decide +kernel)
set_option maxRecDepth 20000 in
theorem gX1_turnsAt_X4_begins : GoodIn wsX1_turnsAt (va_wsS RX1 42 yX4_begins wsX4_begins) := goodIn_app (goodIn_of _ (by decide +kernel)) ggX1_turnsAt_X4_begins
theorem dX1_turnsAt_0 : decode cX1_turnsAt 0 = .ok (.aload_n 0, 1) := by decide +kernel
theorem dX1_turnsAt_1 : decode cX1_turnsAt 1 = .ok (.getfield 31, 3) := by decide +kernel
theorem dX1_turnsAt_4 : decode cX1_turnsAt 4 = .ok (.ifCond .eq 5, 3) := by decide +kernel
theorem dX1_turnsAt_7 : decode cX1_turnsAt 7 = .ok (.iconst 0, 1) := by decide +kernel
theorem dX1_turnsAt_8 : decode cX1_turnsAt 8 = .ok (.ireturn, 1) := by decide +kernel
theorem dX1_turnsAt_9 : decode cX1_turnsAt 9 = .ok (.aload_n 0, 1) := by decide +kernel
theorem dX1_turnsAt_10 : decode cX1_turnsAt 10 = .ok (.getfield 9, 3) := by decide +kernel
theorem dX1_turnsAt_13 : decode cX1_turnsAt 13 = .ok (.iconst 4, 1) := by decide +kernel
theorem dX1_turnsAt_14 : decode cX1_turnsAt 14 = .ok (.if_icmp .ne 17, 3) := by decide +kernel
theorem dX1_turnsAt_17 : decode cX1_turnsAt 17 = .ok (.iload_n 1, 1) := by decide +kernel
theorem dX1_turnsAt_18 : decode cX1_turnsAt 18 = .ok (.aload_n 0, 1) := by decide +kernel
theorem dX1_turnsAt_19 : decode cX1_turnsAt 19 = .ok (.getfield 15, 3) := by decide +kernel
theorem dX1_turnsAt_22 : decode cX1_turnsAt 22 = .ok (.if_icmp .ne 7, 3) := by decide +kernel
theorem dX1_turnsAt_25 : decode cX1_turnsAt 25 = .ok (.iconst 1, 1) := by decide +kernel
theorem dX1_turnsAt_26 : decode cX1_turnsAt 26 = .ok (.goto 4, 3) := by decide +kernel
theorem dX1_turnsAt_29 : decode cX1_turnsAt 29 = .ok (.iconst 0, 1) := by decide +kernel
theorem dX1_turnsAt_30 : decode cX1_turnsAt 30 = .ok (.ireturn, 1) := by decide +kernel
theorem dX1_turnsAt_31 : decode cX1_turnsAt 31 = .ok (.iload_n 2, 1) := by decide +kernel
theorem dX1_turnsAt_32 : decode cX1_turnsAt 32 = .ok (.iconst 1, 1) := by decide +kernel
theorem dX1_turnsAt_33 : decode cX1_turnsAt 33 = .ok (.if_icmp .eq 11, 3) := by decide +kernel
theorem dX1_turnsAt_36 : decode cX1_turnsAt 36 = .ok (.aload_n 0, 1) := by decide +kernel
theorem dX1_turnsAt_37 : decode cX1_turnsAt 37 = .ok (.getfield 28, 3) := by decide +kernel
theorem dX1_turnsAt_40 : decode cX1_turnsAt 40 = .ok (.iconst 1, 1) := by decide +kernel
theorem dX1_turnsAt_41 : decode cX1_turnsAt 41 = .ok (.if_icmp .ne 5, 3) := by decide +kernel
theorem dX1_turnsAt_44 : decode cX1_turnsAt 44 = .ok (.iconst 0, 1) := by decide +kernel
theorem dX1_turnsAt_45 : decode cX1_turnsAt 45 = .ok (.ireturn, 1) := by decide +kernel
theorem dX1_turnsAt_46 : decode cX1_turnsAt 46 = .ok (.aload_n 0, 1) := by decide +kernel
theorem dX1_turnsAt_47 : decode cX1_turnsAt 47 = .ok (.getfield 9, 3) := by decide +kernel
theorem dX1_turnsAt_50 : decode cX1_turnsAt 50 = .ok (.tableswitch 75 0 5 #[75, 38, 66, 44, 75, 66], 38) := by decide +kernel
theorem dX1_turnsAt_88 : decode cX1_turnsAt 88 = .ok (.aload_n 0, 1) := by decide +kernel
theorem dX1_turnsAt_89 : decode cX1_turnsAt 89 = .ok (.iload_n 2, 1) := by decide +kernel
theorem dX1_turnsAt_90 : decode cX1_turnsAt 90 = .ok (.invokevirtual 35, 3) := by decide +kernel
theorem dX1_turnsAt_93 : decode cX1_turnsAt 93 = .ok (.ireturn, 1) := by decide +kernel
theorem dX1_turnsAt_94 : decode cX1_turnsAt 94 = .ok (.aload_n 0, 1) := by decide +kernel
theorem dX1_turnsAt_95 : decode cX1_turnsAt 95 = .ok (.iload_n 2, 1) := by decide +kernel
theorem dX1_turnsAt_96 : decode cX1_turnsAt 96 = .ok (.invokevirtual 35, 3) := by decide +kernel
theorem dX1_turnsAt_99 : decode cX1_turnsAt 99 = .ok (.ifCond .ne 11, 3) := by decide +kernel
theorem dX1_turnsAt_102 : decode cX1_turnsAt 102 = .ok (.aload_n 0, 1) := by decide +kernel
theorem dX1_turnsAt_103 : decode cX1_turnsAt 103 = .ok (.iload_n 2, 1) := by decide +kernel
theorem dX1_turnsAt_104 : decode cX1_turnsAt 104 = .ok (.invokevirtual 39, 3) := by decide +kernel
theorem dX1_turnsAt_107 : decode cX1_turnsAt 107 = .ok (.ifCond .eq 7, 3) := by decide +kernel
theorem dX1_turnsAt_110 : decode cX1_turnsAt 110 = .ok (.iconst 1, 1) := by decide +kernel
theorem dX1_turnsAt_111 : decode cX1_turnsAt 111 = .ok (.goto 4, 3) := by decide +kernel
theorem dX1_turnsAt_114 : decode cX1_turnsAt 114 = .ok (.iconst 0, 1) := by decide +kernel
theorem dX1_turnsAt_115 : decode cX1_turnsAt 115 = .ok (.ireturn, 1) := by decide +kernel
theorem dX1_turnsAt_116 : decode cX1_turnsAt 116 = .ok (.iload_n 2, 1) := by decide +kernel
theorem dX1_turnsAt_117 : decode cX1_turnsAt 117 = .ok (.aload_n 0, 1) := by decide +kernel
theorem dX1_turnsAt_118 : decode cX1_turnsAt 118 = .ok (.getfield 28, 3) := by decide +kernel
theorem dX1_turnsAt_121 : decode cX1_turnsAt 121 = .ok (.invokestatic 42, 3) := by decide +kernel
theorem dX1_turnsAt_124 : decode cX1_turnsAt 124 = .ok (.ireturn, 1) := by decide +kernel
theorem dX1_turnsAt_125 : decode cX1_turnsAt 125 = .ok (.iload_n 2, 1) := by decide +kernel
theorem dX1_turnsAt_126 : decode cX1_turnsAt 126 = .ok (.aload_n 0, 1) := by decide +kernel
theorem dX1_turnsAt_127 : decode cX1_turnsAt 127 = .ok (.getfield 28, 3) := by decide +kernel
theorem dX1_turnsAt_130 : decode cX1_turnsAt 130 = .ok (.if_icmp .ne 7, 3) := by decide +kernel
theorem dX1_turnsAt_133 : decode cX1_turnsAt 133 = .ok (.iconst 1, 1) := by decide +kernel
theorem dX1_turnsAt_134 : decode cX1_turnsAt 134 = .ok (.goto 4, 3) := by decide +kernel
theorem dX1_turnsAt_137 : decode cX1_turnsAt 137 = .ok (.iconst 0, 1) := by decide +kernel
theorem dX1_turnsAt_138 : decode cX1_turnsAt 138 = .ok (.ireturn, 1) := by decide +kernel
set_option maxRecDepth 20000 in
theorem ggX1_turnsLisping_X4_lisped : GoodIn wsX1_turnsLisping wsX4_lisped := goodIn_r _ [5] (by decide +kernel) (by decide +kernel)
set_option maxRecDepth 20000 in
theorem gX1_turnsLisping_X4_lisped : GoodIn wsX1_turnsLisping (va_wsS RX1 46 yX4_lisped wsX4_lisped) := goodIn_app (goodIn_of _ (by decide +kernel)) ggX1_turnsLisping_X4_lisped
theorem dX1_turnsLisping_0 : decode cX1_turnsLisping 0 = .ok (.iload_n 1, 1) := by decide +kernel
theorem dX1_turnsLisping_1 : decode cX1_turnsLisping 1 = .ok (.invokestatic 46, 3) := by decide +kernel
theorem dX1_turnsLisping_4 : decode cX1_turnsLisping 4 = .ok (.aload_n 0, 1) := by decide +kernel
theorem dX1_turnsLisping_5 : decode cX1_turnsLisping 5 = .ok (.getfield 28, 3) := by decide +kernel
theorem dX1_turnsLisping_8 : decode cX1_turnsLisping 8 = .ok (.invokestatic 46, 3) := by decide +kernel
theorem dX1_turnsLisping_11 : decode cX1_turnsLisping 11 = .ok (.if_icmp .ne 7, 3) := by decide +kernel
theorem dX1_turnsLisping_14 : decode cX1_turnsLisping 14 = .ok (.iconst 1, 1) := by decide +kernel
theorem dX1_turnsLisping_15 : decode cX1_turnsLisping 15 = .ok (.goto 4, 3) := by decide +kernel
theorem dX1_turnsLisping_18 : decode cX1_turnsLisping 18 = .ok (.iconst 0, 1) := by decide +kernel
theorem dX1_turnsLisping_19 : decode cX1_turnsLisping 19 = .ok (.ireturn, 1) := by decide +kernel
set_option maxRecDepth 20000 in
theorem ggX1_mocks_X4_notes : GoodIn wsX1_mocks wsX4_notes := goodIn_r _ [5] (by decide +kernel) (by decide +kernel)
set_option maxRecDepth 20000 in
theorem gX1_mocks_X4_notes : GoodIn wsX1_mocks (va_wsS RX1 49 yX4_notes wsX4_notes) := goodIn_app (goodIn_of _ (by decide +kernel)) ggX1_mocks_X4_notes
theorem dX1_mocks_0 : decode cX1_mocks 0 = .ok (.iload_n 1, 1) := by decide +kernel
theorem dX1_mocks_1 : decode cX1_mocks 1 = .ok (.iconst 3, 1) := by decide +kernel
theorem dX1_mocks_2 : decode cX1_mocks 2 = .ok (.iand, 1) := by decide +kernel
theorem dX1_mocks_3 : decode cX1_mocks 3 = .ok (.aload_n 0, 1) := by decide +kernel
theorem dX1_mocks_4 : decode cX1_mocks 4 = .ok (.getfield 28, 3) := by decide +kernel
theorem dX1_mocks_7 : decode cX1_mocks 7 = .ok (.iconst 3, 1) := by decide +kernel
theorem dX1_mocks_8 : decode cX1_mocks 8 = .ok (.iand, 1) := by decide +kernel
theorem dX1_mocks_9 : decode cX1_mocks 9 = .ok (.if_icmp .ne 21, 3) := by decide +kernel
theorem dX1_mocks_12 : decode cX1_mocks 12 = .ok (.iload_n 1, 1) := by decide +kernel
theorem dX1_mocks_13 : decode cX1_mocks 13 = .ok (.invokestatic 49, 3) := by decide +kernel
theorem dX1_mocks_16 : decode cX1_mocks 16 = .ok (.aload_n 0, 1) := by decide +kernel
theorem dX1_mocks_17 : decode cX1_mocks 17 = .ok (.getfield 28, 3) := by decide +kernel
theorem dX1_mocks_20 : decode cX1_mocks 20 = .ok (.invokestatic 49, 3) := by decide +kernel
theorem dX1_mocks_23 : decode cX1_mocks 23 = .ok (.if_icmp .ne 7, 3) := by decide +kernel
theorem dX1_mocks_26 : decode cX1_mocks 26 = .ok (.iconst 1, 1) := by decide +kernel
theorem dX1_mocks_27 : decode cX1_mocks 27 = .ok (.goto 4, 3) := by decide +kernel
theorem dX1_mocks_30 : decode cX1_mocks 30 = .ok (.iconst 0, 1) := by decide +kernel
theorem dX1_mocks_31 : decode cX1_mocks 31 = .ok (.ireturn, 1) := by decide +kernel
set_option maxRecDepth 20000 in
theorem ggX2_init_X1_init : GoodIn wsX2_init wsX1_init := goodIn_r _ [17, 18, 2, 3] (by decide +kernel) (by decide +kernel)
set_option maxRecDepth 20000 in
theorem gX2_init_X1_init_n23 : GoodIn wsX2_init (wsX1_init) := ggX2_init_X1_init
theorem dX2_init_0 : decode cX2_init 0 = .ok (.aload_n 0, 1) := by decide +kernel
theorem dX2_init_1 : decode cX2_init 1 = .ok (.invokespecial 5, 3) := by decide +kernel
theorem dX2_init_4 : decode cX2_init 4 = .ok (.aload_n 0, 1) := by decide +kernel
theorem dX2_init_5 : decode cX2_init 5 = .ok (.sipush 480, 3) := by decide +kernel
theorem dX2_init_8 : decode cX2_init 8 = .ok (.newarray .int, 2) := by decide +kernel
theorem dX2_init_10 : decode cX2_init 10 = .ok (.putfield 11, 3) := by decide +kernel
theorem dX2_init_13 : decode cX2_init 13 = .ok (.aload_n 0, 1) := by decide +kernel
theorem dX2_init_14 : decode cX2_init 14 = .ok (.sipush 480, 3) := by decide +kernel
theorem dX2_init_17 : decode cX2_init 17 = .ok (.newarray .int, 2) := by decide +kernel
theorem dX2_init_19 : decode cX2_init 19 = .ok (.putfield 15, 3) := by decide +kernel
theorem dX2_init_22 : decode cX2_init 22 = .ok (.aload_n 0, 1) := by decide +kernel
theorem dX2_init_23 : decode cX2_init 23 = .ok (.bipush 20, 2) := by decide +kernel
theorem dX2_init_25 : decode cX2_init 25 = .ok (.newarray .int, 2) := by decide +kernel
theorem dX2_init_27 : decode cX2_init 27 = .ok (.putfield 18, 3) := by decide +kernel
theorem dX2_init_30 : decode cX2_init 30 = .ok (.aload_n 0, 1) := by decide +kernel
theorem dX2_init_31 : decode cX2_init 31 = .ok (.new 21, 3) := by decide +kernel
theorem dX2_init_34 : decode cX2_init 34 = .ok (.dup, 1) := by decide +kernel
theorem dX2_init_35 : decode cX2_init 35 = .ok (.invokespecial 23, 3) := by decide +kernel
theorem dX2_init_38 : decode cX2_init 38 = .ok (.putfield 24, 3) := by decide +kernel
theorem dX2_init_41 : decode cX2_init 41 = .ok (.aload_n 0, 1) := by decide +kernel
theorem dX2_init_42 : decode cX2_init 42 = .ok (.bipush 25, 2) := by decide +kernel
theorem dX2_init_44 : decode cX2_init 44 = .ok (.newarray .int, 2) := by decide +kernel
theorem dX2_init_46 : decode cX2_init 46 = .ok (.putfield 28, 3) := by decide +kernel
theorem dX2_init_49 : decode cX2_init 49 = .ok (.aload_n 0, 1) := by decide +kernel
theorem dX2_init_50 : decode cX2_init 50 = .ok (.bipush 30, 2) := by decide +kernel
theorem dX2_init_52 : decode cX2_init 52 = .ok (.newarray .int, 2) := by decide +kernel
theorem dX2_init_54 : decode cX2_init 54 = .ok (.putfield 31, 3) := by decide +kernel
theorem dX2_init_57 : decode cX2_init 57 = .ok (.aload_n 0, 1) := by decide +kernel
theorem dX2_init_58 : decode cX2_init 58 = .ok (.iconst 5, 1) := by decide +kernel
theorem dX2_init_59 : decode cX2_init 59 = .ok (.newarray .int, 2) := by decide +kernel
theorem dX2_init_61 : decode cX2_init 61 = .ok (.putfield 34, 3) := by decide +kernel
theorem dX2_init_64 : decode cX2_init 64 = .ok (.aload_n 0, 1) := by decide +kernel
theorem dX2_init_65 : decode cX2_init 65 = .ok (.iconst 5, 1) := by decide +kernel
theorem dX2_init_66 : decode cX2_init 66 = .ok (.newarray .int, 2) := by decide +kernel
theorem dX2_init_68 : decode cX2_init 68 = .ok (.putfield 37, 3) := by decide +kernel
theorem dX2_init_71 : decode cX2_init 71 = .ok (.return_, 1) := by decide +kernel
theorem dX2_shortTune_0 : decode cX2_shortTune 0 = .ok (.iload_n 0, 1) := by decide +kernel
theorem dX2_shortTune_1 : decode cX2_shortTune 1 = .ok (.iconst 4, 1) := by decide +kernel
theorem dX2_shortTune_2 : decode cX2_shortTune 2 = .ok (.if_icmp .ge 9, 3) := by decide +kernel
theorem dX2_shortTune_5 : decode cX2_shortTune 5 = .ok (.iconst 4, 1) := by decide +kernel
theorem dX2_shortTune_6 : decode cX2_shortTune 6 = .ok (.iload_n 0, 1) := by decide +kernel
theorem dX2_shortTune_7 : decode cX2_shortTune 7 = .ok (.iadd, 1) := by decide +kernel
theorem dX2_shortTune_8 : decode cX2_shortTune 8 = .ok (.goto 7, 3) := by decide +kernel
theorem dX2_shortTune_11 : decode cX2_shortTune 11 = .ok (.bipush 12, 2) := by decide +kernel
theorem dX2_shortTune_13 : decode cX2_shortTune 13 = .ok (.iload_n 0, 1) := by decide +kernel
theorem dX2_shortTune_14 : decode cX2_shortTune 14 = .ok (.iadd, 1) := by decide +kernel
theorem dX2_shortTune_15 : decode cX2_shortTune 15 = .ok (.ireturn, 1) := by decide +kernel
theorem dX2_firstNote_0 : decode cX2_firstNote 0 = .ok (.iload_n 0, 1) := by decide +kernel
theorem dX2_firstNote_1 : decode cX2_firstNote 1 = .ok (.iconst 4, 1) := by decide +kernel
theorem dX2_firstNote_2 : decode cX2_firstNote 2 = .ok (.if_icmp .ge 7, 3) := by decide +kernel
theorem dX2_firstNote_5 : decode cX2_firstNote 5 = .ok (.iload_n 0, 1) := by decide +kernel
theorem dX2_firstNote_6 : decode cX2_firstNote 6 = .ok (.goto 8, 3) := by decide +kernel
theorem dX2_firstNote_9 : decode cX2_firstNote 9 = .ok (.iload_n 0, 1) := by decide +kernel
theorem dX2_firstNote_10 : decode cX2_firstNote 10 = .ok (.iconst 4, 1) := by decide +kernel
theorem dX2_firstNote_11 : decode cX2_firstNote 11 = .ok (.isub, 1) := by decide +kernel
theorem dX2_firstNote_12 : decode cX2_firstNote 12 = .ok (.iconst 4, 1) := by decide +kernel
theorem dX2_firstNote_13 : decode cX2_firstNote 13 = .ok (.idiv, 1) := by decide +kernel
theorem dX2_firstNote_14 : decode cX2_firstNote 14 = .ok (.ireturn, 1) := by decide +kernel
theorem dX2_rowsFirst_0 : decode cX2_rowsFirst 0 = .ok (.iconst 1, 1) := by decide +kernel
theorem dX2_rowsFirst_1 : decode cX2_rowsFirst 1 = .ok (.iload_n 0, 1) := by decide +kernel
theorem dX2_rowsFirst_2 : decode cX2_rowsFirst 2 = .ok (.ishl, 1) := by decide +kernel
theorem dX2_rowsFirst_3 : decode cX2_rowsFirst 3 = .ok (.bipush 15, 2) := by decide +kernel
theorem dX2_rowsFirst_5 : decode cX2_rowsFirst 5 = .ok (.iconst 4, 1) := by decide +kernel
theorem dX2_rowsFirst_6 : decode cX2_rowsFirst 6 = .ok (.iconst 4, 1) := by decide +kernel
theorem dX2_rowsFirst_7 : decode cX2_rowsFirst 7 = .ok (.iload_n 0, 1) := by decide +kernel
theorem dX2_rowsFirst_8 : decode cX2_rowsFirst 8 = .ok (.imul, 1) := by decide +kernel
theorem dX2_rowsFirst_9 : decode cX2_rowsFirst 9 = .ok (.iadd, 1) := by decide +kernel
theorem dX2_rowsFirst_10 : decode cX2_rowsFirst 10 = .ok (.ishl, 1) := by decide +kernel
theorem dX2_rowsFirst_11 : decode cX2_rowsFirst 11 = .ok (.ior, 1) := by decide +kernel
theorem dX2_rowsFirst_12 : decode cX2_rowsFirst 12 = .ok (.ireturn, 1) := by decide +kernel
set_option maxRecDepth 20000 in
theorem ggX2_find_X2_fillRows : GoodIn wsX2_find wsX2_fillRows := goodIn_r _ [10, 11, 12, 13, 9, 14, 15, 16, 17, 18, 19, 20, 21, 22, 23, 24, 25, 26, 27, 28, 29, 30, 31, 32, 33, 34, 35, 36, 37, 38, 39, 40, 41, 42, 43, 44, 45, 46, 47, 48, 49, 50, 51, 52, 53, 54, 55, 56, 57, 58, 59, 60, 61, 62, 63, 64, 65, 66, 67, 68, 128, 129, 130, 131, 132, 133, 134, 135, 136, 137, 138, 139, 140, 141] (by decide +kernel) (by decide +kernel)
set_option maxRecDepth 20000 in
theorem gX2_find_X2_fillRows : GoodIn wsX2_find (wsV RX2 50 RX2 yX2_fillRows wsX2_fillRows) := goodIn_app (goodIn_of _ (by decide +kernel)) ggX2_find_X2_fillRows
set_option maxRecDepth 20000 in
theorem ggX2_find_X0_greatestSharedWind : GoodIn wsX2_find wsX0_greatestSharedWind := goodIn_r _ [73, 74, 75, 76, 77, 78, 79, 80, 81, 82, 117, 118, 119, 120, 121, 122, 123, 124, 125, 126, 127] (by decide +kernel) (by decide +kernel)
set_option maxRecDepth 20000 in
theorem gX2_find_X0_greatestSharedWind : GoodIn wsX2_find (wsV RX2 53 RX0 yX0_greatestSharedWind wsX0_greatestSharedWind) := goodIn_app (goodIn_of _ (by decide +kernel)) ggX2_find_X0_greatestSharedWind
set_option maxRecDepth 20000 in
theorem ggX2_find_X2_rowsWithOthers : GoodIn wsX2_find wsX2_rowsWithOthers := goodIn_r _ [86, 1, 87, 88, 89, 9, 90, 91, 3, 26, 92, 31, 93, 94, 95, 96, 97, 98, 99, 117, 118, 119, 120, 121, 122, 123, 124, 125, 126, 127, 128, 129, 130, 131, 132, 133, 134, 135, 136, 137] (by decide +kernel) (by decide +kernel)
set_option maxRecDepth 20000 in
theorem gX2_find_X2_rowsWithOthers : GoodIn wsX2_find (wsV RX2 57 RX2 yX2_rowsWithOthers wsX2_rowsWithOthers) := goodIn_app (goodIn_of _ (by decide +kernel)) ggX2_find_X2_rowsWithOthers
set_option maxRecDepth 20000 in
theorem ggX2_find_X2_choose : GoodIn wsX2_find wsX2_choose := goodIn_r _ [102, 1, 5, 4, 103, 104, 105, 106, 9, 107, 108, 27, 28, 29, 30, 109, 110, 111, 112, 113, 114, 115, 116, 87, 88, 89, 90, 91, 3, 26, 92, 31, 93, 94, 95, 96, 97, 98, 99, 100, 101, 117, 118, 119, 120, 121, 122, 123, 124, 125, 126, 127, 128, 129, 130, 131, 132, 133, 134, 135, 136, 137] (by decide +kernel) (by decide +kernel)
set_option maxRecDepth 20000 in
theorem gX2_find_X2_choose : GoodIn wsX2_find (va_wsS RX2 64 yX2_choose wsX2_choose) := goodIn_app (goodIn_of _ (by decide +kernel)) ggX2_find_X2_choose
theorem dX2_find_0 : decode cX2_find 0 = .ok (.aload_n 1, 1) := by decide +kernel
theorem dX2_find_1 : decode cX2_find 1 = .ok (.getfield 40, 3) := by decide +kernel
theorem dX2_find_4 : decode cX2_find 4 = .ok (.iconst 5, 1) := by decide +kernel
theorem dX2_find_5 : decode cX2_find 5 = .ok (.if_icmp .le 5, 3) := by decide +kernel
theorem dX2_find_8 : decode cX2_find 8 = .ok (.iconst 0, 1) := by decide +kernel
theorem dX2_find_9 : decode cX2_find 9 = .ok (.ireturn, 1) := by decide +kernel
theorem dX2_find_10 : decode cX2_find 10 = .ok (.aload_n 0, 1) := by decide +kernel
theorem dX2_find_11 : decode cX2_find 11 = .ok (.getfield 46, 3) := by decide +kernel
theorem dX2_find_14 : decode cX2_find 14 = .ok (.ifCond .ne 12, 3) := by decide +kernel
theorem dX2_find_17 : decode cX2_find 17 = .ok (.aload_n 0, 1) := by decide +kernel
theorem dX2_find_18 : decode cX2_find 18 = .ok (.invokevirtual 50, 3) := by decide +kernel
theorem dX2_find_21 : decode cX2_find 21 = .ok (.aload_n 0, 1) := by decide +kernel
theorem dX2_find_22 : decode cX2_find 22 = .ok (.iconst 1, 1) := by decide +kernel
theorem dX2_find_23 : decode cX2_find 23 = .ok (.putfield 46, 3) := by decide +kernel
theorem dX2_find_26 : decode cX2_find 26 = .ok (.iconst 0, 1) := by decide +kernel
theorem dX2_find_27 : decode cX2_find 27 = .ok (.istore_n 2, 1) := by decide +kernel
theorem dX2_find_28 : decode cX2_find 28 = .ok (.iload_n 2, 1) := by decide +kernel
theorem dX2_find_29 : decode cX2_find 29 = .ok (.aload_n 1, 1) := by decide +kernel
theorem dX2_find_30 : decode cX2_find 30 = .ok (.getfield 40, 3) := by decide +kernel
theorem dX2_find_33 : decode cX2_find 33 = .ok (.if_icmp .ge 41, 3) := by decide +kernel
theorem dX2_find_36 : decode cX2_find 36 = .ok (.iconst 0, 1) := by decide +kernel
theorem dX2_find_37 : decode cX2_find 37 = .ok (.istore_n 3, 1) := by decide +kernel
theorem dX2_find_38 : decode cX2_find 38 = .ok (.iload_n 3, 1) := by decide +kernel
theorem dX2_find_39 : decode cX2_find 39 = .ok (.aload_n 1, 1) := by decide +kernel
theorem dX2_find_40 : decode cX2_find 40 = .ok (.getfield 40, 3) := by decide +kernel
theorem dX2_find_43 : decode cX2_find 43 = .ok (.if_icmp .ge 25, 3) := by decide +kernel
theorem dX2_find_46 : decode cX2_find 46 = .ok (.aload_n 0, 1) := by decide +kernel
theorem dX2_find_47 : decode cX2_find 47 = .ok (.getfield 28, 3) := by decide +kernel
theorem dX2_find_50 : decode cX2_find 50 = .ok (.iload_n 2, 1) := by decide +kernel
theorem dX2_find_51 : decode cX2_find 51 = .ok (.iconst 5, 1) := by decide +kernel
theorem dX2_find_52 : decode cX2_find 52 = .ok (.imul, 1) := by decide +kernel
theorem dX2_find_53 : decode cX2_find 53 = .ok (.iload_n 3, 1) := by decide +kernel
theorem dX2_find_54 : decode cX2_find 54 = .ok (.iadd, 1) := by decide +kernel
theorem dX2_find_55 : decode cX2_find 55 = .ok (.aload_n 1, 1) := by decide +kernel
theorem dX2_find_56 : decode cX2_find 56 = .ok (.iload_n 2, 1) := by decide +kernel
theorem dX2_find_57 : decode cX2_find 57 = .ok (.iload_n 3, 1) := by decide +kernel
theorem dX2_find_58 : decode cX2_find 58 = .ok (.invokevirtual 53, 3) := by decide +kernel
theorem dX2_find_61 : decode cX2_find 61 = .ok (.iastore, 1) := by decide +kernel
theorem dX2_find_62 : decode cX2_find 62 = .ok (.iinc 3 1, 3) := by decide +kernel
theorem dX2_find_65 : decode cX2_find 65 = .ok (.goto (-27), 3) := by decide +kernel
theorem dX2_find_68 : decode cX2_find 68 = .ok (.iinc 2 1, 3) := by decide +kernel
theorem dX2_find_71 : decode cX2_find 71 = .ok (.goto (-43), 3) := by decide +kernel
theorem dX2_find_74 : decode cX2_find 74 = .ok (.iconst 0, 1) := by decide +kernel
theorem dX2_find_75 : decode cX2_find 75 = .ok (.istore_n 2, 1) := by decide +kernel
theorem dX2_find_76 : decode cX2_find 76 = .ok (.iload_n 2, 1) := by decide +kernel
theorem dX2_find_77 : decode cX2_find 77 = .ok (.aload_n 1, 1) := by decide +kernel
theorem dX2_find_78 : decode cX2_find 78 = .ok (.getfield 40, 3) := by decide +kernel
theorem dX2_find_81 : decode cX2_find 81 = .ok (.if_icmp .ge 21, 3) := by decide +kernel
theorem dX2_find_84 : decode cX2_find 84 = .ok (.aload_n 0, 1) := by decide +kernel
theorem dX2_find_85 : decode cX2_find 85 = .ok (.getfield 31, 3) := by decide +kernel
theorem dX2_find_88 : decode cX2_find 88 = .ok (.iload_n 2, 1) := by decide +kernel
theorem dX2_find_89 : decode cX2_find 89 = .ok (.aload_n 0, 1) := by decide +kernel
theorem dX2_find_90 : decode cX2_find 90 = .ok (.aload_n 1, 1) := by decide +kernel
theorem dX2_find_91 : decode cX2_find 91 = .ok (.iload_n 2, 1) := by decide +kernel
theorem dX2_find_92 : decode cX2_find 92 = .ok (.invokevirtual 57, 3) := by decide +kernel
theorem dX2_find_95 : decode cX2_find 95 = .ok (.iastore, 1) := by decide +kernel
theorem dX2_find_96 : decode cX2_find 96 = .ok (.iinc 2 1, 3) := by decide +kernel
theorem dX2_find_99 : decode cX2_find 99 = .ok (.goto (-23), 3) := by decide +kernel
theorem dX2_find_102 : decode cX2_find 102 = .ok (.aload_n 0, 1) := by decide +kernel
theorem dX2_find_103 : decode cX2_find 103 = .ok (.bipush 11, 2) := by decide +kernel
theorem dX2_find_105 : decode cX2_find 105 = .ok (.putfield 61, 3) := by decide +kernel
theorem dX2_find_108 : decode cX2_find 108 = .ok (.aload_n 0, 1) := by decide +kernel
theorem dX2_find_109 : decode cX2_find 109 = .ok (.aload_n 1, 1) := by decide +kernel
theorem dX2_find_110 : decode cX2_find 110 = .ok (.iconst 0, 1) := by decide +kernel
theorem dX2_find_111 : decode cX2_find 111 = .ok (.iconst 0, 1) := by decide +kernel
theorem dX2_find_112 : decode cX2_find 112 = .ok (.invokestatic 64, 3) := by decide +kernel
theorem dX2_find_115 : decode cX2_find 115 = .ok (.aload_n 0, 1) := by decide +kernel
theorem dX2_find_116 : decode cX2_find 116 = .ok (.getfield 61, 3) := by decide +kernel
theorem dX2_find_119 : decode cX2_find 119 = .ok (.bipush 11, 2) := by decide +kernel
theorem dX2_find_121 : decode cX2_find 121 = .ok (.if_icmp .ge 7, 3) := by decide +kernel
theorem dX2_find_124 : decode cX2_find 124 = .ok (.iconst 1, 1) := by decide +kernel
theorem dX2_find_125 : decode cX2_find 125 = .ok (.goto 4, 3) := by decide +kernel
theorem dX2_find_128 : decode cX2_find 128 = .ok (.iconst 0, 1) := by decide +kernel
theorem dX2_find_129 : decode cX2_find 129 = .ok (.ireturn, 1) := by decide +kernel
set_option maxRecDepth 20000 in
theorem ggX2_rowsWithOthers_X2_rowsGoingWith : GoodIn wsX2_rowsWithOthers wsX2_rowsGoingWith := goodIn_r _ [6, 7, 8, 9, 10, 11, 12, 13, 14, 5, 15, 16, 17, 18, 30, 31, 32, 33, 34, 35, 36, 37, 38, 39, 19, 20, 21, 22, 23, 24, 25, 26, 27, 28, 29] (by decide +kernel) (by decide +kernel)
set_option maxRecDepth 20000 in
theorem gX2_rowsWithOthers_X2_rowsGoingWith : GoodIn wsX2_rowsWithOthers (wsV RX2 68 RX2 yX2_rowsGoingWith wsX2_rowsGoingWith) := goodIn_app (goodIn_of _ (by decide +kernel)) ggX2_rowsWithOthers_X2_rowsGoingWith
theorem dX2_rowsWithOthers_0 : decode cX2_rowsWithOthers 0 = .ok (.iconst 0, 1) := by decide +kernel
theorem dX2_rowsWithOthers_1 : decode cX2_rowsWithOthers 1 = .ok (.istore_n 3, 1) := by decide +kernel
theorem dX2_rowsWithOthers_2 : decode cX2_rowsWithOthers 2 = .ok (.iconst 0, 1) := by decide +kernel
theorem dX2_rowsWithOthers_3 : decode cX2_rowsWithOthers 3 = .ok (.istore 4, 2) := by decide +kernel
theorem dX2_rowsWithOthers_5 : decode cX2_rowsWithOthers 5 = .ok (.iload 4, 2) := by decide +kernel
theorem dX2_rowsWithOthers_7 : decode cX2_rowsWithOthers 7 = .ok (.bipush 20, 2) := by decide +kernel
theorem dX2_rowsWithOthers_9 : decode cX2_rowsWithOthers 9 = .ok (.if_icmp .ge 77, 3) := by decide +kernel
theorem dX2_rowsWithOthers_12 : decode cX2_rowsWithOthers 12 = .ok (.iconst 1, 1) := by decide +kernel
theorem dX2_rowsWithOthers_13 : decode cX2_rowsWithOthers 13 = .ok (.istore 5, 2) := by decide +kernel
theorem dX2_rowsWithOthers_15 : decode cX2_rowsWithOthers 15 = .ok (.iconst 0, 1) := by decide +kernel
theorem dX2_rowsWithOthers_16 : decode cX2_rowsWithOthers 16 = .ok (.istore 6, 2) := by decide +kernel
theorem dX2_rowsWithOthers_18 : decode cX2_rowsWithOthers 18 = .ok (.iload 6, 2) := by decide +kernel
theorem dX2_rowsWithOthers_20 : decode cX2_rowsWithOthers 20 = .ok (.aload_n 1, 1) := by decide +kernel
theorem dX2_rowsWithOthers_21 : decode cX2_rowsWithOthers 21 = .ok (.getfield 40, 3) := by decide +kernel
theorem dX2_rowsWithOthers_24 : decode cX2_rowsWithOthers 24 = .ok (.if_icmp .ge 40, 3) := by decide +kernel
theorem dX2_rowsWithOthers_27 : decode cX2_rowsWithOthers 27 = .ok (.iload 5, 2) := by decide +kernel
theorem dX2_rowsWithOthers_29 : decode cX2_rowsWithOthers 29 = .ok (.ifCond .eq 26, 3) := by decide +kernel
theorem dX2_rowsWithOthers_32 : decode cX2_rowsWithOthers 32 = .ok (.iload 6, 2) := by decide +kernel
theorem dX2_rowsWithOthers_34 : decode cX2_rowsWithOthers 34 = .ok (.iload_n 2, 1) := by decide +kernel
theorem dX2_rowsWithOthers_35 : decode cX2_rowsWithOthers 35 = .ok (.if_icmp .eq 16, 3) := by decide +kernel
theorem dX2_rowsWithOthers_38 : decode cX2_rowsWithOthers 38 = .ok (.aload_n 0, 1) := by decide +kernel
theorem dX2_rowsWithOthers_39 : decode cX2_rowsWithOthers 39 = .ok (.aload_n 1, 1) := by decide +kernel
theorem dX2_rowsWithOthers_40 : decode cX2_rowsWithOthers 40 = .ok (.iload_n 2, 1) := by decide +kernel
theorem dX2_rowsWithOthers_41 : decode cX2_rowsWithOthers 41 = .ok (.iload 4, 2) := by decide +kernel
theorem dX2_rowsWithOthers_43 : decode cX2_rowsWithOthers 43 = .ok (.iload 6, 2) := by decide +kernel
theorem dX2_rowsWithOthers_45 : decode cX2_rowsWithOthers 45 = .ok (.invokevirtual 68, 3) := by decide +kernel
theorem dX2_rowsWithOthers_48 : decode cX2_rowsWithOthers 48 = .ok (.ifCond .eq 7, 3) := by decide +kernel
theorem dX2_rowsWithOthers_51 : decode cX2_rowsWithOthers 51 = .ok (.iconst 1, 1) := by decide +kernel
theorem dX2_rowsWithOthers_52 : decode cX2_rowsWithOthers 52 = .ok (.goto 4, 3) := by decide +kernel
theorem dX2_rowsWithOthers_55 : decode cX2_rowsWithOthers 55 = .ok (.iconst 0, 1) := by decide +kernel
theorem dX2_rowsWithOthers_56 : decode cX2_rowsWithOthers 56 = .ok (.istore 5, 2) := by decide +kernel
theorem dX2_rowsWithOthers_58 : decode cX2_rowsWithOthers 58 = .ok (.iinc 6 1, 3) := by decide +kernel
theorem dX2_rowsWithOthers_61 : decode cX2_rowsWithOthers 61 = .ok (.goto (-43), 3) := by decide +kernel
theorem dX2_rowsWithOthers_64 : decode cX2_rowsWithOthers 64 = .ok (.iload_n 3, 1) := by decide +kernel
theorem dX2_rowsWithOthers_65 : decode cX2_rowsWithOthers 65 = .ok (.iload 5, 2) := by decide +kernel
theorem dX2_rowsWithOthers_67 : decode cX2_rowsWithOthers 67 = .ok (.ifCond .eq 10, 3) := by decide +kernel
theorem dX2_rowsWithOthers_70 : decode cX2_rowsWithOthers 70 = .ok (.iconst 1, 1) := by decide +kernel
theorem dX2_rowsWithOthers_71 : decode cX2_rowsWithOthers 71 = .ok (.iload 4, 2) := by decide +kernel
theorem dX2_rowsWithOthers_73 : decode cX2_rowsWithOthers 73 = .ok (.ishl, 1) := by decide +kernel
theorem dX2_rowsWithOthers_74 : decode cX2_rowsWithOthers 74 = .ok (.goto 4, 3) := by decide +kernel
theorem dX2_rowsWithOthers_77 : decode cX2_rowsWithOthers 77 = .ok (.iconst 0, 1) := by decide +kernel
theorem dX2_rowsWithOthers_78 : decode cX2_rowsWithOthers 78 = .ok (.ior, 1) := by decide +kernel
theorem dX2_rowsWithOthers_79 : decode cX2_rowsWithOthers 79 = .ok (.istore_n 3, 1) := by decide +kernel
theorem dX2_rowsWithOthers_80 : decode cX2_rowsWithOthers 80 = .ok (.iinc 4 1, 3) := by decide +kernel
theorem dX2_rowsWithOthers_83 : decode cX2_rowsWithOthers 83 = .ok (.goto (-78), 3) := by decide +kernel
theorem dX2_rowsWithOthers_86 : decode cX2_rowsWithOthers 86 = .ok (.iload_n 3, 1) := by decide +kernel
theorem dX2_rowsWithOthers_87 : decode cX2_rowsWithOthers 87 = .ok (.ireturn, 1) := by decide +kernel
set_option maxRecDepth 20000 in
theorem ggX2_rowsGoingWith_X2_firstNote : GoodIn wsX2_rowsGoingWith wsX2_firstNote := goodIn_r _ [10] (by decide +kernel) (by decide +kernel)
set_option maxRecDepth 20000 in
theorem gX2_rowsGoingWith_X2_firstNote : GoodIn wsX2_rowsGoingWith (va_wsS RX2 79 yX2_firstNote wsX2_firstNote) := goodIn_app (goodIn_of _ (by decide +kernel)) ggX2_rowsGoingWith_X2_firstNote
set_option maxRecDepth 20000 in
theorem ggX2_rowsGoingWith_X2_rowsFirst : GoodIn wsX2_rowsGoingWith wsX2_rowsFirst := goodIn_r _ [13] (by decide +kernel) (by decide +kernel)
set_option maxRecDepth 20000 in
theorem gX2_rowsGoingWith_X2_rowsFirst : GoodIn wsX2_rowsGoingWith (va_wsS RX2 83 yX2_rowsFirst wsX2_rowsFirst) := goodIn_app (goodIn_of _ (by decide +kernel)) ggX2_rowsGoingWith_X2_rowsFirst
theorem dX2_rowsGoingWith_0 : decode cX2_rowsGoingWith 0 = .ok (.ldc 72, 2) := by decide +kernel
theorem dX2_rowsGoingWith_2 : decode cX2_rowsGoingWith 2 = .ok (.istore 5, 2) := by decide +kernel
theorem dX2_rowsGoingWith_4 : decode cX2_rowsGoingWith 4 = .ok (.aload_n 0, 1) := by decide +kernel
theorem dX2_rowsGoingWith_5 : decode cX2_rowsGoingWith 5 = .ok (.getfield 28, 3) := by decide +kernel
theorem dX2_rowsGoingWith_8 : decode cX2_rowsGoingWith 8 = .ok (.iload_n 2, 1) := by decide +kernel
theorem dX2_rowsGoingWith_9 : decode cX2_rowsGoingWith 9 = .ok (.iconst 5, 1) := by decide +kernel
theorem dX2_rowsGoingWith_10 : decode cX2_rowsGoingWith 10 = .ok (.imul, 1) := by decide +kernel
theorem dX2_rowsGoingWith_11 : decode cX2_rowsGoingWith 11 = .ok (.iload 4, 2) := by decide +kernel
theorem dX2_rowsGoingWith_13 : decode cX2_rowsGoingWith 13 = .ok (.iadd, 1) := by decide +kernel
theorem dX2_rowsGoingWith_14 : decode cX2_rowsGoingWith 14 = .ok (.iaload, 1) := by decide +kernel
theorem dX2_rowsGoingWith_15 : decode cX2_rowsGoingWith 15 = .ok (.istore 6, 2) := by decide +kernel
theorem dX2_rowsGoingWith_17 : decode cX2_rowsGoingWith 17 = .ok (.iload 6, 2) := by decide +kernel
theorem dX2_rowsGoingWith_19 : decode cX2_rowsGoingWith 19 = .ok (.iconst (-1), 1) := by decide +kernel
theorem dX2_rowsGoingWith_20 : decode cX2_rowsGoingWith 20 = .ok (.if_icmp .eq 60, 3) := by decide +kernel
theorem dX2_rowsGoingWith_23 : decode cX2_rowsGoingWith 23 = .ok (.iload 5, 2) := by decide +kernel
theorem dX2_rowsGoingWith_25 : decode cX2_rowsGoingWith 25 = .ok (.aload_n 0, 1) := by decide +kernel
theorem dX2_rowsGoingWith_26 : decode cX2_rowsGoingWith 26 = .ok (.getfield 11, 3) := by decide +kernel
theorem dX2_rowsGoingWith_29 : decode cX2_rowsGoingWith 29 = .ok (.aload_n 1, 1) := by decide +kernel
theorem dX2_rowsGoingWith_30 : decode cX2_rowsGoingWith 30 = .ok (.getfield 73, 3) := by decide +kernel
theorem dX2_rowsGoingWith_33 : decode cX2_rowsGoingWith 33 = .ok (.iload_n 2, 1) := by decide +kernel
theorem dX2_rowsGoingWith_34 : decode cX2_rowsGoingWith 34 = .ok (.iaload, 1) := by decide +kernel
theorem dX2_rowsGoingWith_35 : decode cX2_rowsGoingWith 35 = .ok (.iconst 4, 1) := by decide +kernel
theorem dX2_rowsGoingWith_36 : decode cX2_rowsGoingWith 36 = .ok (.imul, 1) := by decide +kernel
theorem dX2_rowsGoingWith_37 : decode cX2_rowsGoingWith 37 = .ok (.iload 6, 2) := by decide +kernel
theorem dX2_rowsGoingWith_39 : decode cX2_rowsGoingWith 39 = .ok (.iadd, 1) := by decide +kernel
theorem dX2_rowsGoingWith_40 : decode cX2_rowsGoingWith 40 = .ok (.bipush 20, 2) := by decide +kernel
theorem dX2_rowsGoingWith_42 : decode cX2_rowsGoingWith 42 = .ok (.imul, 1) := by decide +kernel
theorem dX2_rowsGoingWith_43 : decode cX2_rowsGoingWith 43 = .ok (.iload_n 3, 1) := by decide +kernel
theorem dX2_rowsGoingWith_44 : decode cX2_rowsGoingWith 44 = .ok (.iadd, 1) := by decide +kernel
theorem dX2_rowsGoingWith_45 : decode cX2_rowsGoingWith 45 = .ok (.iaload, 1) := by decide +kernel
theorem dX2_rowsGoingWith_46 : decode cX2_rowsGoingWith 46 = .ok (.iconst (-1), 1) := by decide +kernel
theorem dX2_rowsGoingWith_47 : decode cX2_rowsGoingWith 47 = .ok (.ixor, 1) := by decide +kernel
theorem dX2_rowsGoingWith_48 : decode cX2_rowsGoingWith 48 = .ok (.iand, 1) := by decide +kernel
theorem dX2_rowsGoingWith_49 : decode cX2_rowsGoingWith 49 = .ok (.istore 5, 2) := by decide +kernel
theorem dX2_rowsGoingWith_51 : decode cX2_rowsGoingWith 51 = .ok (.iload 5, 2) := by decide +kernel
theorem dX2_rowsGoingWith_53 : decode cX2_rowsGoingWith 53 = .ok (.aload_n 0, 1) := by decide +kernel
theorem dX2_rowsGoingWith_54 : decode cX2_rowsGoingWith 54 = .ok (.getfield 15, 3) := by decide +kernel
theorem dX2_rowsGoingWith_57 : decode cX2_rowsGoingWith 57 = .ok (.aload_n 1, 1) := by decide +kernel
theorem dX2_rowsGoingWith_58 : decode cX2_rowsGoingWith 58 = .ok (.getfield 73, 3) := by decide +kernel
theorem dX2_rowsGoingWith_61 : decode cX2_rowsGoingWith 61 = .ok (.iload 4, 2) := by decide +kernel
theorem dX2_rowsGoingWith_63 : decode cX2_rowsGoingWith 63 = .ok (.iaload, 1) := by decide +kernel
theorem dX2_rowsGoingWith_64 : decode cX2_rowsGoingWith 64 = .ok (.iconst 4, 1) := by decide +kernel
theorem dX2_rowsGoingWith_65 : decode cX2_rowsGoingWith 65 = .ok (.imul, 1) := by decide +kernel
theorem dX2_rowsGoingWith_66 : decode cX2_rowsGoingWith 66 = .ok (.iload 6, 2) := by decide +kernel
theorem dX2_rowsGoingWith_68 : decode cX2_rowsGoingWith 68 = .ok (.iadd, 1) := by decide +kernel
theorem dX2_rowsGoingWith_69 : decode cX2_rowsGoingWith 69 = .ok (.bipush 20, 2) := by decide +kernel
theorem dX2_rowsGoingWith_71 : decode cX2_rowsGoingWith 71 = .ok (.imul, 1) := by decide +kernel
theorem dX2_rowsGoingWith_72 : decode cX2_rowsGoingWith 72 = .ok (.iload_n 3, 1) := by decide +kernel
theorem dX2_rowsGoingWith_73 : decode cX2_rowsGoingWith 73 = .ok (.iadd, 1) := by decide +kernel
theorem dX2_rowsGoingWith_74 : decode cX2_rowsGoingWith 74 = .ok (.iaload, 1) := by decide +kernel
theorem dX2_rowsGoingWith_75 : decode cX2_rowsGoingWith 75 = .ok (.iconst (-1), 1) := by decide +kernel
theorem dX2_rowsGoingWith_76 : decode cX2_rowsGoingWith 76 = .ok (.ixor, 1) := by decide +kernel
theorem dX2_rowsGoingWith_77 : decode cX2_rowsGoingWith 77 = .ok (.iand, 1) := by decide +kernel
theorem dX2_rowsGoingWith_78 : decode cX2_rowsGoingWith 78 = .ok (.istore 5, 2) := by decide +kernel
theorem dX2_rowsGoingWith_80 : decode cX2_rowsGoingWith 80 = .ok (.aload_n 1, 1) := by decide +kernel
theorem dX2_rowsGoingWith_81 : decode cX2_rowsGoingWith 81 = .ok (.getfield 76, 3) := by decide +kernel
theorem dX2_rowsGoingWith_84 : decode cX2_rowsGoingWith 84 = .ok (.iload 4, 2) := by decide +kernel
theorem dX2_rowsGoingWith_86 : decode cX2_rowsGoingWith 86 = .ok (.iaload, 1) := by decide +kernel
theorem dX2_rowsGoingWith_87 : decode cX2_rowsGoingWith 87 = .ok (.aload_n 1, 1) := by decide +kernel
theorem dX2_rowsGoingWith_88 : decode cX2_rowsGoingWith 88 = .ok (.getfield 76, 3) := by decide +kernel
theorem dX2_rowsGoingWith_91 : decode cX2_rowsGoingWith 91 = .ok (.iload_n 2, 1) := by decide +kernel
theorem dX2_rowsGoingWith_92 : decode cX2_rowsGoingWith 92 = .ok (.iaload, 1) := by decide +kernel
theorem dX2_rowsGoingWith_93 : decode cX2_rowsGoingWith 93 = .ok (.if_icmp .ne 15, 3) := by decide +kernel
theorem dX2_rowsGoingWith_96 : decode cX2_rowsGoingWith 96 = .ok (.iload 5, 2) := by decide +kernel
theorem dX2_rowsGoingWith_98 : decode cX2_rowsGoingWith 98 = .ok (.iload_n 3, 1) := by decide +kernel
theorem dX2_rowsGoingWith_99 : decode cX2_rowsGoingWith 99 = .ok (.invokestatic 79, 3) := by decide +kernel
theorem dX2_rowsGoingWith_102 : decode cX2_rowsGoingWith 102 = .ok (.invokestatic 83, 3) := by decide +kernel
theorem dX2_rowsGoingWith_105 : decode cX2_rowsGoingWith 105 = .ok (.iand, 1) := by decide +kernel
theorem dX2_rowsGoingWith_106 : decode cX2_rowsGoingWith 106 = .ok (.istore 5, 2) := by decide +kernel
theorem dX2_rowsGoingWith_108 : decode cX2_rowsGoingWith 108 = .ok (.iload 5, 2) := by decide +kernel
theorem dX2_rowsGoingWith_110 : decode cX2_rowsGoingWith 110 = .ok (.ireturn, 1) := by decide +kernel
set_option maxRecDepth 20000 in
theorem ggX2_fillRows_X2_shortTune : GoodIn wsX2_fillRows wsX2_shortTune := goodIn_r _ [5] (by decide +kernel) (by decide +kernel)
set_option maxRecDepth 20000 in
theorem gX2_fillRows_X2_shortTune : GoodIn wsX2_fillRows (va_wsS RX2 86 yX2_shortTune wsX2_shortTune) := goodIn_app (goodIn_of _ (by decide +kernel)) ggX2_fillRows_X2_shortTune
set_option maxRecDepth 20000 in
theorem ggX2_fillRows_X4_lessLost : GoodIn wsX2_fillRows wsX4_lessLost := goodIn_r _ [9, 10, 11, 8, 12] (by decide +kernel) (by decide +kernel)
set_option maxRecDepth 20000 in
theorem gX2_fillRows_X4_lessLost : GoodIn wsX2_fillRows (va_wsS RX2 89 yX4_lessLost wsX4_lessLost) := goodIn_app (goodIn_of _ (by decide +kernel)) ggX2_fillRows_X4_lessLost
set_option maxRecDepth 20000 in
theorem ggX2_fillRows_X2_takeOverLesserWind : GoodIn wsX2_fillRows wsX2_takeOverLesserWind := goodIn_r _ [16, 17, 18, 19, 20, 21, 22, 60, 61, 62, 63, 64, 65, 66, 67, 68, 69] (by decide +kernel) (by decide +kernel)
set_option maxRecDepth 20000 in
theorem gX2_fillRows_X2_takeOverLesserWind : GoodIn wsX2_fillRows (wsV RX2 94 RX2 yX2_takeOverLesserWind wsX2_takeOverLesserWind) := goodIn_app (goodIn_of _ (by decide +kernel)) ggX2_fillRows_X2_takeOverLesserWind
set_option maxRecDepth 20000 in
theorem ggX2_fillRows_X2_fillOwn : GoodIn wsX2_fillRows wsX2_fillOwn := goodIn_r _ [26, 27, 1, 17, 22, 2, 3, 4, 5, 28, 29, 30, 31, 32, 33, 34, 35, 36, 37, 38, 8, 39, 10, 11, 12, 40, 7, 9, 41, 42, 43, 44, 45, 46, 47, 48, 49, 50, 51, 52, 53, 54, 55, 56, 57, 58, 59, 60, 61, 62, 63, 64, 65, 66, 67, 68, 69, 70, 71, 72, 73] (by decide +kernel) (by decide +kernel)
set_option maxRecDepth 20000 in
theorem gX2_fillRows_X2_fillOwn : GoodIn wsX2_fillRows (wsV RX2 98 RX2 yX2_fillOwn wsX2_fillOwn) := goodIn_app (goodIn_of _ (by decide +kernel)) ggX2_fillRows_X2_fillOwn
theorem dX2_fillRows_0 : decode cX2_fillRows 0 = .ok (.iconst 0, 1) := by decide +kernel
theorem dX2_fillRows_1 : decode cX2_fillRows 1 = .ok (.istore_n 1, 1) := by decide +kernel
theorem dX2_fillRows_2 : decode cX2_fillRows 2 = .ok (.iload_n 1, 1) := by decide +kernel
theorem dX2_fillRows_3 : decode cX2_fillRows 3 = .ok (.iconst 4, 1) := by decide +kernel
theorem dX2_fillRows_4 : decode cX2_fillRows 4 = .ok (.if_icmp .ge 78, 3) := by decide +kernel
theorem dX2_fillRows_7 : decode cX2_fillRows 7 = .ok (.iconst 0, 1) := by decide +kernel
theorem dX2_fillRows_8 : decode cX2_fillRows 8 = .ok (.istore_n 2, 1) := by decide +kernel
theorem dX2_fillRows_9 : decode cX2_fillRows 9 = .ok (.iload_n 2, 1) := by decide +kernel
theorem dX2_fillRows_10 : decode cX2_fillRows 10 = .ok (.bipush 20, 2) := by decide +kernel
theorem dX2_fillRows_12 : decode cX2_fillRows 12 = .ok (.if_icmp .ge 23, 3) := by decide +kernel
theorem dX2_fillRows_15 : decode cX2_fillRows 15 = .ok (.aload_n 0, 1) := by decide +kernel
theorem dX2_fillRows_16 : decode cX2_fillRows 16 = .ok (.getfield 18, 3) := by decide +kernel
theorem dX2_fillRows_19 : decode cX2_fillRows 19 = .ok (.iload_n 2, 1) := by decide +kernel
theorem dX2_fillRows_20 : decode cX2_fillRows 20 = .ok (.iload_n 2, 1) := by decide +kernel
theorem dX2_fillRows_21 : decode cX2_fillRows 21 = .ok (.invokestatic 86, 3) := by decide +kernel
theorem dX2_fillRows_24 : decode cX2_fillRows 24 = .ok (.iload_n 1, 1) := by decide +kernel
theorem dX2_fillRows_25 : decode cX2_fillRows 25 = .ok (.invokestatic 89, 3) := by decide +kernel
theorem dX2_fillRows_28 : decode cX2_fillRows 28 = .ok (.iastore, 1) := by decide +kernel
theorem dX2_fillRows_29 : decode cX2_fillRows 29 = .ok (.iinc 2 1, 3) := by decide +kernel
theorem dX2_fillRows_32 : decode cX2_fillRows 32 = .ok (.goto (-23), 3) := by decide +kernel
theorem dX2_fillRows_35 : decode cX2_fillRows 35 = .ok (.iconst 0, 1) := by decide +kernel
theorem dX2_fillRows_36 : decode cX2_fillRows 36 = .ok (.istore_n 2, 1) := by decide +kernel
theorem dX2_fillRows_37 : decode cX2_fillRows 37 = .ok (.iload_n 2, 1) := by decide +kernel
theorem dX2_fillRows_38 : decode cX2_fillRows 38 = .ok (.bipush 6, 2) := by decide +kernel
theorem dX2_fillRows_40 : decode cX2_fillRows 40 = .ok (.if_icmp .ge 36, 3) := by decide +kernel
