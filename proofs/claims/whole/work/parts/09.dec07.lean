theorem dX7_alter_160 : decode cX7_alter 160 = .ok (.ireturn, 1) := by decide +kernel
theorem dX7_tuneOf_0 : decode cX7_tuneOf 0 = .ok (.iload_n 0, 1) := by decide +kernel
theorem dX7_tuneOf_1 : decode cX7_tuneOf 1 = .ok (.iconst 4, 1) := by decide +kernel
theorem dX7_tuneOf_2 : decode cX7_tuneOf 2 = .ok (.if_icmp .ge 9, 3) := by decide +kernel
theorem dX7_tuneOf_5 : decode cX7_tuneOf 5 = .ok (.iconst 4, 1) := by decide +kernel
theorem dX7_tuneOf_6 : decode cX7_tuneOf 6 = .ok (.iload_n 0, 1) := by decide +kernel
theorem dX7_tuneOf_7 : decode cX7_tuneOf 7 = .ok (.iadd, 1) := by decide +kernel
theorem dX7_tuneOf_8 : decode cX7_tuneOf 8 = .ok (.goto 7, 3) := by decide +kernel
theorem dX7_tuneOf_11 : decode cX7_tuneOf 11 = .ok (.bipush 12, 2) := by decide +kernel
theorem dX7_tuneOf_13 : decode cX7_tuneOf 13 = .ok (.iload_n 0, 1) := by decide +kernel
theorem dX7_tuneOf_14 : decode cX7_tuneOf 14 = .ok (.iadd, 1) := by decide +kernel
theorem dX7_tuneOf_15 : decode cX7_tuneOf 15 = .ok (.ireturn, 1) := by decide +kernel
theorem dX7_fits_0 : decode cX7_fits 0 = .ok (.iconst 1, 1) := by decide +kernel
theorem dX7_fits_1 : decode cX7_fits 1 = .ok (.istore_n 2, 1) := by decide +kernel
theorem dX7_fits_2 : decode cX7_fits 2 = .ok (.iconst 0, 1) := by decide +kernel
theorem dX7_fits_3 : decode cX7_fits 3 = .ok (.istore_n 3, 1) := by decide +kernel
theorem dX7_fits_4 : decode cX7_fits 4 = .ok (.iload_n 3, 1) := by decide +kernel
theorem dX7_fits_5 : decode cX7_fits 5 = .ok (.iload_n 1, 1) := by decide +kernel
theorem dX7_fits_6 : decode cX7_fits 6 = .ok (.if_icmp .ge 53, 3) := by decide +kernel
theorem dX7_fits_9 : decode cX7_fits 9 = .ok (.iload_n 2, 1) := by decide +kernel
theorem dX7_fits_10 : decode cX7_fits 10 = .ok (.ifCond .eq 41, 3) := by decide +kernel
theorem dX7_fits_13 : decode cX7_fits 13 = .ok (.aload_n 0, 1) := by decide +kernel
theorem dX7_fits_14 : decode cX7_fits 14 = .ok (.getfield 32, 3) := by decide +kernel
theorem dX7_fits_17 : decode cX7_fits 17 = .ok (.iconst 5, 1) := by decide +kernel
theorem dX7_fits_18 : decode cX7_fits 18 = .ok (.iload_n 3, 1) := by decide +kernel
theorem dX7_fits_19 : decode cX7_fits 19 = .ok (.imul, 1) := by decide +kernel
theorem dX7_fits_20 : decode cX7_fits 20 = .ok (.iload_n 1, 1) := by decide +kernel
theorem dX7_fits_21 : decode cX7_fits 21 = .ok (.iadd, 1) := by decide +kernel
theorem dX7_fits_22 : decode cX7_fits 22 = .ok (.sipush 400, 3) := by decide +kernel
theorem dX7_fits_25 : decode cX7_fits 25 = .ok (.imul, 1) := by decide +kernel
theorem dX7_fits_26 : decode cX7_fits 26 = .ok (.bipush 20, 2) := by decide +kernel
theorem dX7_fits_28 : decode cX7_fits 28 = .ok (.aload_n 0, 1) := by decide +kernel
theorem dX7_fits_29 : decode cX7_fits 29 = .ok (.getfield 35, 3) := by decide +kernel
theorem dX7_fits_32 : decode cX7_fits 32 = .ok (.iload_n 3, 1) := by decide +kernel
theorem dX7_fits_33 : decode cX7_fits 33 = .ok (.iaload, 1) := by decide +kernel
theorem dX7_fits_34 : decode cX7_fits 34 = .ok (.imul, 1) := by decide +kernel
theorem dX7_fits_35 : decode cX7_fits 35 = .ok (.iadd, 1) := by decide +kernel
theorem dX7_fits_36 : decode cX7_fits 36 = .ok (.aload_n 0, 1) := by decide +kernel
theorem dX7_fits_37 : decode cX7_fits 37 = .ok (.getfield 35, 3) := by decide +kernel
theorem dX7_fits_40 : decode cX7_fits 40 = .ok (.iload_n 1, 1) := by decide +kernel
theorem dX7_fits_41 : decode cX7_fits 41 = .ok (.iaload, 1) := by decide +kernel
theorem dX7_fits_42 : decode cX7_fits 42 = .ok (.iadd, 1) := by decide +kernel
theorem dX7_fits_43 : decode cX7_fits 43 = .ok (.baload, 1) := by decide +kernel
theorem dX7_fits_44 : decode cX7_fits 44 = .ok (.ifCond .eq 7, 3) := by decide +kernel
theorem dX7_fits_47 : decode cX7_fits 47 = .ok (.iconst 1, 1) := by decide +kernel
theorem dX7_fits_48 : decode cX7_fits 48 = .ok (.goto 4, 3) := by decide +kernel
theorem dX7_fits_51 : decode cX7_fits 51 = .ok (.iconst 0, 1) := by decide +kernel
theorem dX7_fits_52 : decode cX7_fits 52 = .ok (.istore_n 2, 1) := by decide +kernel
theorem dX7_fits_53 : decode cX7_fits 53 = .ok (.iinc 3 1, 3) := by decide +kernel
theorem dX7_fits_56 : decode cX7_fits 56 = .ok (.goto (-52), 3) := by decide +kernel
theorem dX7_fits_59 : decode cX7_fits 59 = .ok (.iload_n 2, 1) := by decide +kernel
theorem dX7_fits_60 : decode cX7_fits 60 = .ok (.ireturn, 1) := by decide +kernel
set_option maxRecDepth 20000 in
theorem ggX7_fewest_X7_tuneOf : GoodIn wsX7_fewest wsX7_tuneOf := goodIn_r _ [8] (by decide +kernel) (by decide +kernel)
set_option maxRecDepth 20000 in
theorem gX7_fewest_X7_tuneOf : GoodIn wsX7_fewest (va_wsS RX7 213 yX7_tuneOf wsX7_tuneOf) := goodIn_app (goodIn_of _ (by decide +kernel)) ggX7_fewest_X7_tuneOf
set_option maxRecDepth 20000 in
theorem ggX7_fewest_X7_of : GoodIn wsX7_fewest wsX7_of := goodIn_r _ [12, 1, 51, 52, 53, 54, 55, 56, 57, 58, 59, 60, 61, 62, 63, 64, 65, 66, 67, 68] (by decide +kernel) (by decide +kernel)
set_option maxRecDepth 20000 in
theorem gX7_fewest_X7_of : GoodIn wsX7_fewest (wsV RX7 121 RX7 yX7_of wsX7_of) := goodIn_app (goodIn_of _ (by decide +kernel)) ggX7_fewest_X7_of
set_option maxRecDepth 20000 in
theorem ggX7_fewest_X7_note : GoodIn wsX7_fewest wsX7_note := goodIn_r _ [15, 16, 17, 7, 18] (by decide +kernel) (by decide +kernel)
set_option maxRecDepth 20000 in
theorem gX7_fewest_X7_note : GoodIn wsX7_fewest (va_wsS RX7 87 yX7_note wsX7_note) := goodIn_app (goodIn_of _ (by decide +kernel)) ggX7_fewest_X7_note
set_option maxRecDepth 20000 in
theorem ggX7_fewest_X7_clashes : GoodIn wsX7_fewest wsX7_clashes := goodIn_r _ [22, 23, 24, 25, 7, 26, 27, 28, 29, 30, 9, 10, 11, 12, 1, 31, 32, 33, 34, 35, 36, 37, 38, 39, 40, 16, 17, 18, 13, 14, 15, 41, 42, 43, 44, 45, 46, 51, 52, 53, 54, 55, 56, 57, 58, 59, 60, 61, 62, 63, 64, 65, 66, 67, 68] (by decide +kernel) (by decide +kernel)
set_option maxRecDepth 20000 in
theorem gX7_fewest_X7_clashes : GoodIn wsX7_fewest (wsV RX7 207 RX7 yX7_clashes wsX7_clashes) := goodIn_app (goodIn_of _ (by decide +kernel)) ggX7_fewest_X7_clashes
set_option maxRecDepth 20000 in
theorem ggX7_fewest_X7_notes : GoodIn wsX7_fewest wsX7_notes := goodIn_r _ [18] (by decide +kernel) (by decide +kernel)
set_option maxRecDepth 20000 in
theorem gX7_fewest_X7_notes : GoodIn wsX7_fewest (va_wsS RX7 83 yX7_notes wsX7_notes) := goodIn_app (goodIn_of _ (by decide +kernel)) ggX7_fewest_X7_notes
set_option maxRecDepth 20000 in
theorem ggX7_fewest_X7_fits : GoodIn wsX7_fewest wsX7_fits := goodIn_r _ [50, 2, 3, 51, 52, 53, 54, 55, 56, 57, 58, 59, 60, 61, 62, 63, 64, 65, 66, 67, 68] (by decide +kernel) (by decide +kernel)
set_option maxRecDepth 20000 in
theorem gX7_fewest_X7_fits : GoodIn wsX7_fewest (wsV RX7 216 RX7 yX7_fits wsX7_fits) := goodIn_app (goodIn_of _ (by decide +kernel)) ggX7_fewest_X7_fits
theorem dX7_fewest_0 : decode cX7_fewest 0 = .ok (.aload_n 0, 1) := by decide +kernel
theorem dX7_fewest_1 : decode cX7_fewest 1 = .ok (.getfield 7, 3) := by decide +kernel
theorem dX7_fewest_4 : decode cX7_fewest 4 = .ok (.bipush 15, 2) := by decide +kernel
theorem dX7_fewest_6 : decode cX7_fewest 6 = .ok (.iaload, 1) := by decide +kernel
theorem dX7_fewest_7 : decode cX7_fewest 7 = .ok (.istore_n 1, 1) := by decide +kernel
theorem dX7_fewest_8 : decode cX7_fewest 8 = .ok (.iconst 0, 1) := by decide +kernel
theorem dX7_fewest_9 : decode cX7_fewest 9 = .ok (.istore_n 2, 1) := by decide +kernel
theorem dX7_fewest_10 : decode cX7_fewest 10 = .ok (.iload_n 2, 1) := by decide +kernel
theorem dX7_fewest_11 : decode cX7_fewest 11 = .ok (.iload_n 1, 1) := by decide +kernel
theorem dX7_fewest_12 : decode cX7_fewest 12 = .ok (.if_icmp .ge 138, 3) := by decide +kernel
theorem dX7_fewest_15 : decode cX7_fewest 15 = .ok (.iload_n 2, 1) := by decide +kernel
theorem dX7_fewest_16 : decode cX7_fewest 16 = .ok (.iconst 1, 1) := by decide +kernel
theorem dX7_fewest_17 : decode cX7_fewest 17 = .ok (.iadd, 1) := by decide +kernel
theorem dX7_fewest_18 : decode cX7_fewest 18 = .ok (.istore_n 3, 1) := by decide +kernel
theorem dX7_fewest_19 : decode cX7_fewest 19 = .ok (.iload_n 3, 1) := by decide +kernel
theorem dX7_fewest_20 : decode cX7_fewest 20 = .ok (.iload_n 1, 1) := by decide +kernel
theorem dX7_fewest_21 : decode cX7_fewest 21 = .ok (.if_icmp .ge 123, 3) := by decide +kernel
theorem dX7_fewest_24 : decode cX7_fewest 24 = .ok (.iconst 0, 1) := by decide +kernel
theorem dX7_fewest_25 : decode cX7_fewest 25 = .ok (.istore 4, 2) := by decide +kernel
theorem dX7_fewest_27 : decode cX7_fewest 27 = .ok (.iload 4, 2) := by decide +kernel
theorem dX7_fewest_29 : decode cX7_fewest 29 = .ok (.sipush 400, 3) := by decide +kernel
theorem dX7_fewest_32 : decode cX7_fewest 32 = .ok (.if_icmp .ge 106, 3) := by decide +kernel
theorem dX7_fewest_35 : decode cX7_fewest 35 = .ok (.iload 4, 2) := by decide +kernel
theorem dX7_fewest_37 : decode cX7_fewest 37 = .ok (.bipush 20, 2) := by decide +kernel
theorem dX7_fewest_39 : decode cX7_fewest 39 = .ok (.idiv, 1) := by decide +kernel
theorem dX7_fewest_40 : decode cX7_fewest 40 = .ok (.invokestatic 213, 3) := by decide +kernel
theorem dX7_fewest_43 : decode cX7_fewest 43 = .ok (.istore 5, 2) := by decide +kernel
theorem dX7_fewest_45 : decode cX7_fewest 45 = .ok (.iload 4, 2) := by decide +kernel
theorem dX7_fewest_47 : decode cX7_fewest 47 = .ok (.bipush 20, 2) := by decide +kernel
theorem dX7_fewest_49 : decode cX7_fewest 49 = .ok (.irem, 1) := by decide +kernel
theorem dX7_fewest_50 : decode cX7_fewest 50 = .ok (.invokestatic 213, 3) := by decide +kernel
theorem dX7_fewest_53 : decode cX7_fewest 53 = .ok (.istore 6, 2) := by decide +kernel
theorem dX7_fewest_55 : decode cX7_fewest 55 = .ok (.aload_n 0, 1) := by decide +kernel
theorem dX7_fewest_56 : decode cX7_fewest 56 = .ok (.iload_n 2, 1) := by decide +kernel
theorem dX7_fewest_57 : decode cX7_fewest 57 = .ok (.iconst 3, 1) := by decide +kernel
theorem dX7_fewest_58 : decode cX7_fewest 58 = .ok (.invokevirtual 121, 3) := by decide +kernel
theorem dX7_fewest_61 : decode cX7_fewest 61 = .ok (.aload_n 0, 1) := by decide +kernel
theorem dX7_fewest_62 : decode cX7_fewest 62 = .ok (.iload_n 3, 1) := by decide +kernel
theorem dX7_fewest_63 : decode cX7_fewest 63 = .ok (.iconst 3, 1) := by decide +kernel
theorem dX7_fewest_64 : decode cX7_fewest 64 = .ok (.invokevirtual 121, 3) := by decide +kernel
theorem dX7_fewest_67 : decode cX7_fewest 67 = .ok (.if_icmp .ne 18, 3) := by decide +kernel
theorem dX7_fewest_70 : decode cX7_fewest 70 = .ok (.iload 5, 2) := by decide +kernel
theorem dX7_fewest_72 : decode cX7_fewest 72 = .ok (.iconst 0, 1) := by decide +kernel
theorem dX7_fewest_73 : decode cX7_fewest 73 = .ok (.invokestatic 87, 3) := by decide +kernel
theorem dX7_fewest_76 : decode cX7_fewest 76 = .ok (.iload 6, 2) := by decide +kernel
theorem dX7_fewest_78 : decode cX7_fewest 78 = .ok (.iconst 0, 1) := by decide +kernel
theorem dX7_fewest_79 : decode cX7_fewest 79 = .ok (.invokestatic 87, 3) := by decide +kernel
theorem dX7_fewest_82 : decode cX7_fewest 82 = .ok (.if_icmp .ne 7, 3) := by decide +kernel
theorem dX7_fewest_85 : decode cX7_fewest 85 = .ok (.iconst 1, 1) := by decide +kernel
theorem dX7_fewest_86 : decode cX7_fewest 86 = .ok (.goto 4, 3) := by decide +kernel
theorem dX7_fewest_89 : decode cX7_fewest 89 = .ok (.iconst 0, 1) := by decide +kernel
theorem dX7_fewest_90 : decode cX7_fewest 90 = .ok (.istore 7, 2) := by decide +kernel
theorem dX7_fewest_92 : decode cX7_fewest 92 = .ok (.aload_n 0, 1) := by decide +kernel
theorem dX7_fewest_93 : decode cX7_fewest 93 = .ok (.getfield 32, 3) := by decide +kernel
theorem dX7_fewest_96 : decode cX7_fewest 96 = .ok (.iconst 5, 1) := by decide +kernel
theorem dX7_fewest_97 : decode cX7_fewest 97 = .ok (.iload_n 2, 1) := by decide +kernel
theorem dX7_fewest_98 : decode cX7_fewest 98 = .ok (.imul, 1) := by decide +kernel
theorem dX7_fewest_99 : decode cX7_fewest 99 = .ok (.iload_n 3, 1) := by decide +kernel
theorem dX7_fewest_100 : decode cX7_fewest 100 = .ok (.iadd, 1) := by decide +kernel
theorem dX7_fewest_101 : decode cX7_fewest 101 = .ok (.sipush 400, 3) := by decide +kernel
theorem dX7_fewest_104 : decode cX7_fewest 104 = .ok (.imul, 1) := by decide +kernel
theorem dX7_fewest_105 : decode cX7_fewest 105 = .ok (.iload 4, 2) := by decide +kernel
theorem dX7_fewest_107 : decode cX7_fewest 107 = .ok (.iadd, 1) := by decide +kernel
theorem dX7_fewest_108 : decode cX7_fewest 108 = .ok (.iload 7, 2) := by decide +kernel
theorem dX7_fewest_110 : decode cX7_fewest 110 = .ok (.ifCond .eq 20, 3) := by decide +kernel
theorem dX7_fewest_113 : decode cX7_fewest 113 = .ok (.aload_n 0, 1) := by decide +kernel
theorem dX7_fewest_114 : decode cX7_fewest 114 = .ok (.iload_n 2, 1) := by decide +kernel
theorem dX7_fewest_115 : decode cX7_fewest 115 = .ok (.iload 5, 2) := by decide +kernel
theorem dX7_fewest_117 : decode cX7_fewest 117 = .ok (.iload_n 3, 1) := by decide +kernel
theorem dX7_fewest_118 : decode cX7_fewest 118 = .ok (.iload 6, 2) := by decide +kernel
theorem dX7_fewest_120 : decode cX7_fewest 120 = .ok (.invokevirtual 207, 3) := by decide +kernel
theorem dX7_fewest_123 : decode cX7_fewest 123 = .ok (.ifCond .ne 7, 3) := by decide +kernel
theorem dX7_fewest_126 : decode cX7_fewest 126 = .ok (.iconst 1, 1) := by decide +kernel
theorem dX7_fewest_127 : decode cX7_fewest 127 = .ok (.goto 4, 3) := by decide +kernel
theorem dX7_fewest_130 : decode cX7_fewest 130 = .ok (.iconst 0, 1) := by decide +kernel
theorem dX7_fewest_131 : decode cX7_fewest 131 = .ok (.bastore, 1) := by decide +kernel
theorem dX7_fewest_132 : decode cX7_fewest 132 = .ok (.iinc 4 1, 3) := by decide +kernel
theorem dX7_fewest_135 : decode cX7_fewest 135 = .ok (.goto (-108), 3) := by decide +kernel
theorem dX7_fewest_138 : decode cX7_fewest 138 = .ok (.iinc 3 1, 3) := by decide +kernel
theorem dX7_fewest_141 : decode cX7_fewest 141 = .ok (.goto (-122), 3) := by decide +kernel
theorem dX7_fewest_144 : decode cX7_fewest 144 = .ok (.iinc 2 1, 3) := by decide +kernel
theorem dX7_fewest_147 : decode cX7_fewest 147 = .ok (.goto (-137), 3) := by decide +kernel
theorem dX7_fewest_150 : decode cX7_fewest 150 = .ok (.iconst (-1), 1) := by decide +kernel
theorem dX7_fewest_151 : decode cX7_fewest 151 = .ok (.istore_n 2, 1) := by decide +kernel
theorem dX7_fewest_152 : decode cX7_fewest 152 = .ok (.iconst 0, 1) := by decide +kernel
theorem dX7_fewest_153 : decode cX7_fewest 153 = .ok (.istore_n 3, 1) := by decide +kernel
theorem dX7_fewest_154 : decode cX7_fewest 154 = .ok (.iconst 0, 1) := by decide +kernel
theorem dX7_fewest_155 : decode cX7_fewest 155 = .ok (.istore 4, 2) := by decide +kernel
theorem dX7_fewest_157 : decode cX7_fewest 157 = .ok (.iload_n 1, 1) := by decide +kernel
theorem dX7_fewest_158 : decode cX7_fewest 158 = .ok (.ifCond .ne 5, 3) := by decide +kernel
theorem dX7_fewest_161 : decode cX7_fewest 161 = .ok (.iconst 0, 1) := by decide +kernel
theorem dX7_fewest_162 : decode cX7_fewest 162 = .ok (.ireturn, 1) := by decide +kernel
theorem dX7_fewest_163 : decode cX7_fewest 163 = .ok (.aload_n 0, 1) := by decide +kernel
theorem dX7_fewest_164 : decode cX7_fewest 164 = .ok (.getfield 35, 3) := by decide +kernel
theorem dX7_fewest_167 : decode cX7_fewest 167 = .ok (.iconst 0, 1) := by decide +kernel
theorem dX7_fewest_168 : decode cX7_fewest 168 = .ok (.iconst (-1), 1) := by decide +kernel
theorem dX7_fewest_169 : decode cX7_fewest 169 = .ok (.iastore, 1) := by decide +kernel
theorem dX7_fewest_170 : decode cX7_fewest 170 = .ok (.iload_n 3, 1) := by decide +kernel
theorem dX7_fewest_171 : decode cX7_fewest 171 = .ok (.ifCond .lt 157, 3) := by decide +kernel
theorem dX7_fewest_174 : decode cX7_fewest 174 = .ok (.iload 4, 2) := by decide +kernel
theorem dX7_fewest_176 : decode cX7_fewest 176 = .ok (.aload_n 0, 1) := by decide +kernel
theorem dX7_fewest_177 : decode cX7_fewest 177 = .ok (.getfield 35, 3) := by decide +kernel
theorem dX7_fewest_180 : decode cX7_fewest 180 = .ok (.iload_n 3, 1) := by decide +kernel
theorem dX7_fewest_181 : decode cX7_fewest 181 = .ok (.iaload, 1) := by decide +kernel
theorem dX7_fewest_182 : decode cX7_fewest 182 = .ok (.ifCond .ge 7, 3) := by decide +kernel
theorem dX7_fewest_185 : decode cX7_fewest 185 = .ok (.iconst 0, 1) := by decide +kernel
theorem dX7_fewest_186 : decode cX7_fewest 186 = .ok (.goto 15, 3) := by decide +kernel
theorem dX7_fewest_189 : decode cX7_fewest 189 = .ok (.aload_n 0, 1) := by decide +kernel
theorem dX7_fewest_190 : decode cX7_fewest 190 = .ok (.getfield 35, 3) := by decide +kernel
theorem dX7_fewest_193 : decode cX7_fewest 193 = .ok (.iload_n 3, 1) := by decide +kernel
theorem dX7_fewest_194 : decode cX7_fewest 194 = .ok (.iaload, 1) := by decide +kernel
theorem dX7_fewest_195 : decode cX7_fewest 195 = .ok (.invokestatic 213, 3) := by decide +kernel
theorem dX7_fewest_198 : decode cX7_fewest 198 = .ok (.invokestatic 83, 3) := by decide +kernel
theorem dX7_fewest_201 : decode cX7_fewest 201 = .ok (.isub, 1) := by decide +kernel
theorem dX7_fewest_202 : decode cX7_fewest 202 = .ok (.istore 4, 2) := by decide +kernel
theorem dX7_fewest_204 : decode cX7_fewest 204 = .ok (.aload_n 0, 1) := by decide +kernel
theorem dX7_fewest_205 : decode cX7_fewest 205 = .ok (.getfield 35, 3) := by decide +kernel
theorem dX7_fewest_208 : decode cX7_fewest 208 = .ok (.iload_n 3, 1) := by decide +kernel
theorem dX7_fewest_209 : decode cX7_fewest 209 = .ok (.dup2, 1) := by decide +kernel
theorem dX7_fewest_210 : decode cX7_fewest 210 = .ok (.iaload, 1) := by decide +kernel
theorem dX7_fewest_211 : decode cX7_fewest 211 = .ok (.iconst 1, 1) := by decide +kernel
theorem dX7_fewest_212 : decode cX7_fewest 212 = .ok (.iadd, 1) := by decide +kernel
theorem dX7_fewest_213 : decode cX7_fewest 213 = .ok (.iastore, 1) := by decide +kernel
theorem dX7_fewest_214 : decode cX7_fewest 214 = .ok (.aload_n 0, 1) := by decide +kernel
theorem dX7_fewest_215 : decode cX7_fewest 215 = .ok (.getfield 35, 3) := by decide +kernel
theorem dX7_fewest_218 : decode cX7_fewest 218 = .ok (.iload_n 3, 1) := by decide +kernel
theorem dX7_fewest_219 : decode cX7_fewest 219 = .ok (.iaload, 1) := by decide +kernel
theorem dX7_fewest_220 : decode cX7_fewest 220 = .ok (.bipush 20, 2) := by decide +kernel
theorem dX7_fewest_222 : decode cX7_fewest 222 = .ok (.if_icmp .ne 9, 3) := by decide +kernel
theorem dX7_fewest_225 : decode cX7_fewest 225 = .ok (.iinc 3 (-1), 3) := by decide +kernel
theorem dX7_fewest_228 : decode cX7_fewest 228 = .ok (.goto (-58), 3) := by decide +kernel
theorem dX7_fewest_231 : decode cX7_fewest 231 = .ok (.iload 4, 2) := by decide +kernel
theorem dX7_fewest_233 : decode cX7_fewest 233 = .ok (.aload_n 0, 1) := by decide +kernel
theorem dX7_fewest_234 : decode cX7_fewest 234 = .ok (.getfield 35, 3) := by decide +kernel
theorem dX7_fewest_237 : decode cX7_fewest 237 = .ok (.iload_n 3, 1) := by decide +kernel
theorem dX7_fewest_238 : decode cX7_fewest 238 = .ok (.iaload, 1) := by decide +kernel
theorem dX7_fewest_239 : decode cX7_fewest 239 = .ok (.invokestatic 213, 3) := by decide +kernel
theorem dX7_fewest_242 : decode cX7_fewest 242 = .ok (.invokestatic 83, 3) := by decide +kernel
theorem dX7_fewest_245 : decode cX7_fewest 245 = .ok (.iadd, 1) := by decide +kernel
theorem dX7_fewest_246 : decode cX7_fewest 246 = .ok (.istore 4, 2) := by decide +kernel
theorem dX7_fewest_248 : decode cX7_fewest 248 = .ok (.aload_n 0, 1) := by decide +kernel
theorem dX7_fewest_249 : decode cX7_fewest 249 = .ok (.iload_n 3, 1) := by decide +kernel
theorem dX7_fewest_250 : decode cX7_fewest 250 = .ok (.invokevirtual 216, 3) := by decide +kernel
theorem dX7_fewest_253 : decode cX7_fewest 253 = .ok (.ifCond .eq (-83), 3) := by decide +kernel
theorem dX7_fewest_256 : decode cX7_fewest 256 = .ok (.iload_n 2, 1) := by decide +kernel
theorem dX7_fewest_257 : decode cX7_fewest 257 = .ok (.iconst (-1), 1) := by decide +kernel
theorem dX7_fewest_258 : decode cX7_fewest 258 = .ok (.if_icmp .eq 15, 3) := by decide +kernel
theorem dX7_fewest_261 : decode cX7_fewest 261 = .ok (.iload 4, 2) := by decide +kernel
theorem dX7_fewest_263 : decode cX7_fewest 263 = .ok (.iload_n 1, 1) := by decide +kernel
theorem dX7_fewest_264 : decode cX7_fewest 264 = .ok (.iadd, 1) := by decide +kernel
theorem dX7_fewest_265 : decode cX7_fewest 265 = .ok (.iconst 1, 1) := by decide +kernel
theorem dX7_fewest_266 : decode cX7_fewest 266 = .ok (.isub, 1) := by decide +kernel
theorem dX7_fewest_267 : decode cX7_fewest 267 = .ok (.iload_n 3, 1) := by decide +kernel
theorem dX7_fewest_268 : decode cX7_fewest 268 = .ok (.isub, 1) := by decide +kernel
theorem dX7_fewest_269 : decode cX7_fewest 269 = .ok (.iload_n 2, 1) := by decide +kernel
theorem dX7_fewest_270 : decode cX7_fewest 270 = .ok (.if_icmp .ge (-100), 3) := by decide +kernel
theorem dX7_fewest_273 : decode cX7_fewest 273 = .ok (.iload_n 3, 1) := by decide +kernel
theorem dX7_fewest_274 : decode cX7_fewest 274 = .ok (.iload_n 1, 1) := by decide +kernel
theorem dX7_fewest_275 : decode cX7_fewest 275 = .ok (.iconst 1, 1) := by decide +kernel
theorem dX7_fewest_276 : decode cX7_fewest 276 = .ok (.isub, 1) := by decide +kernel
theorem dX7_fewest_277 : decode cX7_fewest 277 = .ok (.if_icmp .ne 38, 3) := by decide +kernel
theorem dX7_fewest_280 : decode cX7_fewest 280 = .ok (.iload 4, 2) := by decide +kernel
theorem dX7_fewest_282 : decode cX7_fewest 282 = .ok (.istore_n 2, 1) := by decide +kernel
theorem dX7_fewest_283 : decode cX7_fewest 283 = .ok (.iconst 0, 1) := by decide +kernel
theorem dX7_fewest_284 : decode cX7_fewest 284 = .ok (.istore 5, 2) := by decide +kernel
theorem dX7_fewest_286 : decode cX7_fewest 286 = .ok (.iload 5, 2) := by decide +kernel
theorem dX7_fewest_288 : decode cX7_fewest 288 = .ok (.iload_n 1, 1) := by decide +kernel
theorem dX7_fewest_289 : decode cX7_fewest 289 = .ok (.if_icmp .ge 23, 3) := by decide +kernel
theorem dX7_fewest_292 : decode cX7_fewest 292 = .ok (.aload_n 0, 1) := by decide +kernel
theorem dX7_fewest_293 : decode cX7_fewest 293 = .ok (.getfield 38, 3) := by decide +kernel
theorem dX7_fewest_296 : decode cX7_fewest 296 = .ok (.iload 5, 2) := by decide +kernel
theorem dX7_fewest_298 : decode cX7_fewest 298 = .ok (.aload_n 0, 1) := by decide +kernel
theorem dX7_fewest_299 : decode cX7_fewest 299 = .ok (.getfield 35, 3) := by decide +kernel
theorem dX7_fewest_302 : decode cX7_fewest 302 = .ok (.iload 5, 2) := by decide +kernel
theorem dX7_fewest_304 : decode cX7_fewest 304 = .ok (.iaload, 1) := by decide +kernel
theorem dX7_fewest_305 : decode cX7_fewest 305 = .ok (.iastore, 1) := by decide +kernel
theorem dX7_fewest_306 : decode cX7_fewest 306 = .ok (.iinc 5 1, 3) := by decide +kernel
theorem dX7_fewest_309 : decode cX7_fewest 309 = .ok (.goto (-23), 3) := by decide +kernel
theorem dX7_fewest_312 : decode cX7_fewest 312 = .ok (.goto (-142), 3) := by decide +kernel
theorem dX7_fewest_315 : decode cX7_fewest 315 = .ok (.iinc 3 1, 3) := by decide +kernel
theorem dX7_fewest_318 : decode cX7_fewest 318 = .ok (.aload_n 0, 1) := by decide +kernel
theorem dX7_fewest_319 : decode cX7_fewest 319 = .ok (.getfield 35, 3) := by decide +kernel
theorem dX7_fewest_322 : decode cX7_fewest 322 = .ok (.iload_n 3, 1) := by decide +kernel
theorem dX7_fewest_323 : decode cX7_fewest 323 = .ok (.iconst (-1), 1) := by decide +kernel
theorem dX7_fewest_324 : decode cX7_fewest 324 = .ok (.iastore, 1) := by decide +kernel
theorem dX7_fewest_325 : decode cX7_fewest 325 = .ok (.goto (-155), 3) := by decide +kernel
theorem dX7_fewest_328 : decode cX7_fewest 328 = .ok (.iload_n 2, 1) := by decide +kernel
theorem dX7_fewest_329 : decode cX7_fewest 329 = .ok (.ireturn, 1) := by decide +kernel
set_option maxRecDepth 20000 in
theorem ggX7_names_X7_isOne : GoodIn wsX7_names wsX7_isOne := goodIn_r _ [7, 1, 8, 9, 6, 10, 68, 69, 70, 71, 72, 73, 74, 75, 76, 77, 78, 79, 80, 81, 82, 83, 84, 85] (by decide +kernel) (by decide +kernel)
set_option maxRecDepth 20000 in
theorem gX7_names_X7_isOne : GoodIn wsX7_names (wsV RX7 118 RX7 yX7_isOne wsX7_isOne) := goodIn_app (goodIn_of _ (by decide +kernel)) ggX7_names_X7_isOne
set_option maxRecDepth 20000 in
theorem ggX7_names_X7_refuses : GoodIn wsX7_names wsX7_refuses := goodIn_r _ [14, 15, 16, 68, 69, 70, 71, 72, 73, 74, 75, 76, 77, 78, 79, 80, 81, 82, 83, 84, 85] (by decide +kernel) (by decide +kernel)
set_option maxRecDepth 20000 in
theorem gX7_names_X7_refuses : GoodIn wsX7_names (wsV RX7 51 RX7 yX7_refuses wsX7_refuses) := goodIn_app (goodIn_of _ (by decide +kernel)) ggX7_names_X7_refuses
set_option maxRecDepth 20000 in
theorem ggX7_names_X7_fewest : GoodIn wsX7_names wsX7_fewest := goodIn_r _ [20, 1, 21, 22, 2, 23, 24, 6, 25, 26, 27, 28, 29, 30, 31, 32, 33, 34, 35, 36, 37, 38, 39, 40, 41, 42, 43, 44, 45, 46, 47, 48, 49, 50, 51, 52, 53, 54, 55, 56, 57, 58, 59, 60, 61, 62, 63, 64, 65, 66, 67, 68, 69, 70, 71, 72, 73, 74, 75, 76, 77, 78, 79, 80, 81, 82, 83, 84, 85] (by decide +kernel) (by decide +kernel)
set_option maxRecDepth 20000 in
theorem gX7_names_X7_fewest : GoodIn wsX7_names (wsV RX7 219 RX7 yX7_fewest wsX7_fewest) := goodIn_app (goodIn_of _ (by decide +kernel)) ggX7_names_X7_fewest
set_option maxRecDepth 20000 in
theorem ggX7_names_X7_tuneOf : GoodIn wsX7_names wsX7_tuneOf := goodIn_r _ [25] (by decide +kernel) (by decide +kernel)
set_option maxRecDepth 20000 in
theorem gX7_names_X7_tuneOf : GoodIn wsX7_names (va_wsS RX7 213 yX7_tuneOf wsX7_tuneOf) := goodIn_app (goodIn_of _ (by decide +kernel)) ggX7_names_X7_tuneOf
theorem dX7_names_0 : decode cX7_names 0 = .ok (.iload_n 1, 1) := by decide +kernel
theorem dX7_names_1 : decode cX7_names 1 = .ok (.iconst (-1), 1) := by decide +kernel
theorem dX7_names_2 : decode cX7_names 2 = .ok (.if_icmp .eq 19, 3) := by decide +kernel
theorem dX7_names_5 : decode cX7_names 5 = .ok (.aload_n 0, 1) := by decide +kernel
theorem dX7_names_6 : decode cX7_names 6 = .ok (.iload_n 1, 1) := by decide +kernel
theorem dX7_names_7 : decode cX7_names 7 = .ok (.invokevirtual 118, 3) := by decide +kernel
theorem dX7_names_10 : decode cX7_names 10 = .ok (.ifCond .ne 11, 3) := by decide +kernel
theorem dX7_names_13 : decode cX7_names 13 = .ok (.aload_n 0, 1) := by decide +kernel
theorem dX7_names_14 : decode cX7_names 14 = .ok (.iconst 0, 1) := by decide +kernel
theorem dX7_names_15 : decode cX7_names 15 = .ok (.bipush (-10), 2) := by decide +kernel
theorem dX7_names_17 : decode cX7_names 17 = .ok (.invokevirtual 51, 3) := by decide +kernel
theorem dX7_names_20 : decode cX7_names 20 = .ok (.ireturn, 1) := by decide +kernel
theorem dX7_names_21 : decode cX7_names 21 = .ok (.aload_n 0, 1) := by decide +kernel
theorem dX7_names_22 : decode cX7_names 22 = .ok (.getfield 7, 3) := by decide +kernel
theorem dX7_names_25 : decode cX7_names 25 = .ok (.bipush 15, 2) := by decide +kernel
theorem dX7_names_27 : decode cX7_names 27 = .ok (.iaload, 1) := by decide +kernel
theorem dX7_names_28 : decode cX7_names 28 = .ok (.iconst 5, 1) := by decide +kernel
theorem dX7_names_29 : decode cX7_names 29 = .ok (.if_icmp .le 11, 3) := by decide +kernel
theorem dX7_names_32 : decode cX7_names 32 = .ok (.aload_n 0, 1) := by decide +kernel
theorem dX7_names_33 : decode cX7_names 33 = .ok (.iconst 1, 1) := by decide +kernel
theorem dX7_names_34 : decode cX7_names 34 = .ok (.bipush (-20), 2) := by decide +kernel
theorem dX7_names_36 : decode cX7_names 36 = .ok (.invokevirtual 51, 3) := by decide +kernel
theorem dX7_names_39 : decode cX7_names 39 = .ok (.ireturn, 1) := by decide +kernel
theorem dX7_names_40 : decode cX7_names 40 = .ok (.aload_n 0, 1) := by decide +kernel
theorem dX7_names_41 : decode cX7_names 41 = .ok (.invokevirtual 219, 3) := by decide +kernel
theorem dX7_names_44 : decode cX7_names 44 = .ok (.istore_n 2, 1) := by decide +kernel
theorem dX7_names_45 : decode cX7_names 45 = .ok (.iload_n 2, 1) := by decide +kernel
theorem dX7_names_46 : decode cX7_names 46 = .ok (.iconst (-1), 1) := by decide +kernel
theorem dX7_names_47 : decode cX7_names 47 = .ok (.if_icmp .eq 8, 3) := by decide +kernel
theorem dX7_names_50 : decode cX7_names 50 = .ok (.iload_n 1, 1) := by decide +kernel
theorem dX7_names_51 : decode cX7_names 51 = .ok (.iconst (-1), 1) := by decide +kernel
theorem dX7_names_52 : decode cX7_names 52 = .ok (.if_icmp .ne 7, 3) := by decide +kernel
theorem dX7_names_55 : decode cX7_names 55 = .ok (.iload_n 2, 1) := by decide +kernel
theorem dX7_names_56 : decode cX7_names 56 = .ok (.goto 12, 3) := by decide +kernel
theorem dX7_names_59 : decode cX7_names 59 = .ok (.aload_n 0, 1) := by decide +kernel
theorem dX7_names_60 : decode cX7_names 60 = .ok (.getfield 38, 3) := by decide +kernel
theorem dX7_names_63 : decode cX7_names 63 = .ok (.iload_n 1, 1) := by decide +kernel
theorem dX7_names_64 : decode cX7_names 64 = .ok (.iaload, 1) := by decide +kernel
theorem dX7_names_65 : decode cX7_names 65 = .ok (.invokestatic 213, 3) := by decide +kernel
theorem dX7_names_68 : decode cX7_names 68 = .ok (.ireturn, 1) := by decide +kernel
set_option maxRecDepth 20000 in
theorem ggX7_isOwn_X7_of : GoodIn wsX7_isOwn wsX7_of := goodIn_r _ [6, 1, 41, 42, 43, 44, 45, 46, 47, 48, 49, 50, 51, 52, 53, 54, 55, 56, 57, 58] (by decide +kernel) (by decide +kernel)
set_option maxRecDepth 20000 in
theorem gX7_isOwn_X7_of : GoodIn wsX7_isOwn (wsV RX7 121 RX7 yX7_of wsX7_of) := goodIn_app (goodIn_of _ (by decide +kernel)) ggX7_isOwn_X7_of
set_option maxRecDepth 20000 in
theorem ggX7_isOwn_X7_clashes : GoodIn wsX7_isOwn wsX7_clashes := goodIn_r _ [10, 11, 12, 13, 5, 14, 15, 16, 17, 18, 2, 3, 4, 6, 1, 19, 20, 21, 22, 23, 24, 25, 26, 27, 28, 29, 30, 31, 32, 33, 34, 35, 36, 37, 38, 39, 40, 41, 42, 43, 44, 45, 46, 47, 48, 49, 50, 51, 52, 53, 54, 55, 56, 57, 58] (by decide +kernel) (by decide +kernel)
set_option maxRecDepth 20000 in
theorem gX7_isOwn_X7_clashes : GoodIn wsX7_isOwn (wsV RX7 207 RX7 yX7_clashes wsX7_clashes) := goodIn_app (goodIn_of _ (by decide +kernel)) ggX7_isOwn_X7_clashes
theorem dX7_isOwn_0 : decode cX7_isOwn 0 = .ok (.iconst 1, 1) := by decide +kernel
theorem dX7_isOwn_1 : decode cX7_isOwn 1 = .ok (.istore_n 3, 1) := by decide +kernel
theorem dX7_isOwn_2 : decode cX7_isOwn 2 = .ok (.iconst 0, 1) := by decide +kernel
theorem dX7_isOwn_3 : decode cX7_isOwn 3 = .ok (.istore 4, 2) := by decide +kernel
theorem dX7_isOwn_5 : decode cX7_isOwn 5 = .ok (.iload 4, 2) := by decide +kernel
theorem dX7_isOwn_7 : decode cX7_isOwn 7 = .ok (.aload_n 0, 1) := by decide +kernel
theorem dX7_isOwn_8 : decode cX7_isOwn 8 = .ok (.getfield 7, 3) := by decide +kernel
theorem dX7_isOwn_11 : decode cX7_isOwn 11 = .ok (.bipush 15, 2) := by decide +kernel
theorem dX7_isOwn_13 : decode cX7_isOwn 13 = .ok (.iaload, 1) := by decide +kernel
theorem dX7_isOwn_14 : decode cX7_isOwn 14 = .ok (.if_icmp .ge 43, 3) := by decide +kernel
theorem dX7_isOwn_17 : decode cX7_isOwn 17 = .ok (.iload_n 3, 1) := by decide +kernel
theorem dX7_isOwn_18 : decode cX7_isOwn 18 = .ok (.ifCond .eq 31, 3) := by decide +kernel
theorem dX7_isOwn_21 : decode cX7_isOwn 21 = .ok (.iload 4, 2) := by decide +kernel
theorem dX7_isOwn_23 : decode cX7_isOwn 23 = .ok (.iload_n 1, 1) := by decide +kernel
theorem dX7_isOwn_24 : decode cX7_isOwn 24 = .ok (.if_icmp .eq 21, 3) := by decide +kernel
theorem dX7_isOwn_27 : decode cX7_isOwn 27 = .ok (.aload_n 0, 1) := by decide +kernel
theorem dX7_isOwn_28 : decode cX7_isOwn 28 = .ok (.iload_n 1, 1) := by decide +kernel
theorem dX7_isOwn_29 : decode cX7_isOwn 29 = .ok (.iload_n 2, 1) := by decide +kernel
theorem dX7_isOwn_30 : decode cX7_isOwn 30 = .ok (.iload 4, 2) := by decide +kernel
theorem dX7_isOwn_32 : decode cX7_isOwn 32 = .ok (.aload_n 0, 1) := by decide +kernel
theorem dX7_isOwn_33 : decode cX7_isOwn 33 = .ok (.iload 4, 2) := by decide +kernel
theorem dX7_isOwn_35 : decode cX7_isOwn 35 = .ok (.iconst 1, 1) := by decide +kernel
theorem dX7_isOwn_36 : decode cX7_isOwn 36 = .ok (.invokevirtual 121, 3) := by decide +kernel
theorem dX7_isOwn_39 : decode cX7_isOwn 39 = .ok (.invokevirtual 207, 3) := by decide +kernel
theorem dX7_isOwn_42 : decode cX7_isOwn 42 = .ok (.ifCond .ne 7, 3) := by decide +kernel
theorem dX7_isOwn_45 : decode cX7_isOwn 45 = .ok (.iconst 1, 1) := by decide +kernel
theorem dX7_isOwn_46 : decode cX7_isOwn 46 = .ok (.goto 4, 3) := by decide +kernel
theorem dX7_isOwn_49 : decode cX7_isOwn 49 = .ok (.iconst 0, 1) := by decide +kernel
theorem dX7_isOwn_50 : decode cX7_isOwn 50 = .ok (.istore_n 3, 1) := by decide +kernel
theorem dX7_isOwn_51 : decode cX7_isOwn 51 = .ok (.iinc 4 1, 3) := by decide +kernel
theorem dX7_isOwn_54 : decode cX7_isOwn 54 = .ok (.goto (-49), 3) := by decide +kernel
theorem dX7_isOwn_57 : decode cX7_isOwn 57 = .ok (.iload_n 3, 1) := by decide +kernel
theorem dX7_isOwn_58 : decode cX7_isOwn 58 = .ok (.ireturn, 1) := by decide +kernel
set_option maxRecDepth 20000 in
theorem ggX7_bride_X7_isOne : GoodIn wsX7_bride wsX7_isOne := goodIn_r _ [5, 6, 7, 8, 4, 9, 62, 63, 64, 65, 66, 67, 68, 69, 70, 71, 72, 73, 74, 75, 76, 77, 78, 79] (by decide +kernel) (by decide +kernel)
set_option maxRecDepth 20000 in
theorem gX7_bride_X7_isOne : GoodIn wsX7_bride (wsV RX7 118 RX7 yX7_isOne wsX7_isOne) := goodIn_app (goodIn_of _ (by decide +kernel)) ggX7_bride_X7_isOne
set_option maxRecDepth 20000 in
theorem ggX7_bride_X7_bad : GoodIn wsX7_bride wsX7_bad := goodIn_r _ [13, 14, 15, 16, 4, 17, 18, 19, 62, 63, 64, 65, 66, 67, 68, 69, 70, 71, 72, 73, 74, 75, 76, 77, 78, 79] (by decide +kernel) (by decide +kernel)
set_option maxRecDepth 20000 in
theorem gX7_bride_X7_bad : GoodIn wsX7_bride (wsV RX7 111 RX7 yX7_bad wsX7_bad) := goodIn_app (goodIn_of _ (by decide +kernel)) ggX7_bride_X7_bad
set_option maxRecDepth 20000 in
theorem ggX7_bride_X7_of : GoodIn wsX7_bride wsX7_of := goodIn_r _ [23, 6, 62, 63, 64, 65, 66, 67, 68, 69, 70, 71, 72, 73, 74, 75, 76, 77, 78, 79] (by decide +kernel) (by decide +kernel)
set_option maxRecDepth 20000 in
theorem gX7_bride_X7_of : GoodIn wsX7_bride (wsV RX7 121 RX7 yX7_of wsX7_of) := goodIn_app (goodIn_of _ (by decide +kernel)) ggX7_bride_X7_of
set_option maxRecDepth 20000 in
theorem ggX7_bride_X7_notes : GoodIn wsX7_bride wsX7_notes := goodIn_r _ [26] (by decide +kernel) (by decide +kernel)
set_option maxRecDepth 20000 in
theorem gX7_bride_X7_notes : GoodIn wsX7_bride (va_wsS RX7 83 yX7_notes wsX7_notes) := goodIn_app (goodIn_of _ (by decide +kernel)) ggX7_bride_X7_notes
set_option maxRecDepth 20000 in
theorem ggX7_bride_X7_note : GoodIn wsX7_bride wsX7_note := goodIn_r _ [29, 24, 25, 4, 26] (by decide +kernel) (by decide +kernel)
set_option maxRecDepth 20000 in
theorem gX7_bride_X7_note : GoodIn wsX7_bride (va_wsS RX7 87 yX7_note wsX7_note) := goodIn_app (goodIn_of _ (by decide +kernel)) ggX7_bride_X7_note
set_option maxRecDepth 20000 in
theorem ggX7_bride_X7_isOwn : GoodIn wsX7_bride wsX7_isOwn := goodIn_r _ [33, 6, 20, 21, 22, 4, 23, 34, 35, 36, 37, 38, 39, 40, 41, 42, 43, 44, 45, 46, 47, 48, 49, 50, 51, 52, 53, 54, 55, 24, 25, 26, 27, 28, 29, 56, 57, 58, 59, 60, 61, 62, 63, 64, 65, 66, 67, 68, 69, 70, 71, 72, 73, 74, 75, 76, 77, 78, 79] (by decide +kernel) (by decide +kernel)
set_option maxRecDepth 20000 in
theorem gX7_bride_X7_isOwn : GoodIn wsX7_bride (wsV RX7 222 RX7 yX7_isOwn wsX7_isOwn) := goodIn_app (goodIn_of _ (by decide +kernel)) ggX7_bride_X7_isOwn
theorem dX7_bride_0 : decode cX7_bride 0 = .ok (.aload_n 0, 1) := by decide +kernel
theorem dX7_bride_1 : decode cX7_bride 1 = .ok (.iload_n 1, 1) := by decide +kernel
theorem dX7_bride_2 : decode cX7_bride 2 = .ok (.invokevirtual 118, 3) := by decide +kernel
theorem dX7_bride_5 : decode cX7_bride 5 = .ok (.ifCond .ne 8, 3) := by decide +kernel
theorem dX7_bride_8 : decode cX7_bride 8 = .ok (.aload_n 0, 1) := by decide +kernel
theorem dX7_bride_9 : decode cX7_bride 9 = .ok (.invokevirtual 111, 3) := by decide +kernel
theorem dX7_bride_12 : decode cX7_bride 12 = .ok (.ireturn, 1) := by decide +kernel
theorem dX7_bride_13 : decode cX7_bride 13 = .ok (.aload_n 0, 1) := by decide +kernel
theorem dX7_bride_14 : decode cX7_bride 14 = .ok (.iload_n 1, 1) := by decide +kernel
theorem dX7_bride_15 : decode cX7_bride 15 = .ok (.iconst 1, 1) := by decide +kernel
theorem dX7_bride_16 : decode cX7_bride 16 = .ok (.invokevirtual 121, 3) := by decide +kernel
theorem dX7_bride_19 : decode cX7_bride 19 = .ok (.istore_n 2, 1) := by decide +kernel
theorem dX7_bride_20 : decode cX7_bride 20 = .ok (.iconst 1, 1) := by decide +kernel
theorem dX7_bride_21 : decode cX7_bride 21 = .ok (.iconst 2, 1) := by decide +kernel
theorem dX7_bride_22 : decode cX7_bride 22 = .ok (.iload_n 2, 1) := by decide +kernel
theorem dX7_bride_23 : decode cX7_bride 23 = .ok (.invokestatic 83, 3) := by decide +kernel
theorem dX7_bride_26 : decode cX7_bride 26 = .ok (.imul, 1) := by decide +kernel
theorem dX7_bride_27 : decode cX7_bride 27 = .ok (.ishl, 1) := by decide +kernel
theorem dX7_bride_28 : decode cX7_bride 28 = .ok (.istore_n 3, 1) := by decide +kernel
theorem dX7_bride_29 : decode cX7_bride 29 = .ok (.iload_n 3, 1) := by decide +kernel
theorem dX7_bride_30 : decode cX7_bride 30 = .ok (.istore 4, 2) := by decide +kernel
theorem dX7_bride_32 : decode cX7_bride 32 = .ok (.iload 4, 2) := by decide +kernel
theorem dX7_bride_34 : decode cX7_bride 34 = .ok (.iconst 2, 1) := by decide +kernel
theorem dX7_bride_35 : decode cX7_bride 35 = .ok (.iload_n 3, 1) := by decide +kernel
theorem dX7_bride_36 : decode cX7_bride 36 = .ok (.imul, 1) := by decide +kernel
theorem dX7_bride_37 : decode cX7_bride 37 = .ok (.if_icmp .ge 36, 3) := by decide +kernel
theorem dX7_bride_40 : decode cX7_bride 40 = .ok (.iload 4, 2) := by decide +kernel
theorem dX7_bride_42 : decode cX7_bride 42 = .ok (.iconst 0, 1) := by decide +kernel
theorem dX7_bride_43 : decode cX7_bride 43 = .ok (.invokestatic 87, 3) := by decide +kernel
theorem dX7_bride_46 : decode cX7_bride 46 = .ok (.iload_n 2, 1) := by decide +kernel
theorem dX7_bride_47 : decode cX7_bride 47 = .ok (.iconst 0, 1) := by decide +kernel
theorem dX7_bride_48 : decode cX7_bride 48 = .ok (.invokestatic 87, 3) := by decide +kernel
theorem dX7_bride_51 : decode cX7_bride 51 = .ok (.if_icmp .ne 16, 3) := by decide +kernel
theorem dX7_bride_54 : decode cX7_bride 54 = .ok (.aload_n 0, 1) := by decide +kernel
theorem dX7_bride_55 : decode cX7_bride 55 = .ok (.iload_n 1, 1) := by decide +kernel
theorem dX7_bride_56 : decode cX7_bride 56 = .ok (.iload 4, 2) := by decide +kernel
theorem dX7_bride_58 : decode cX7_bride 58 = .ok (.invokevirtual 222, 3) := by decide +kernel
theorem dX7_bride_61 : decode cX7_bride 61 = .ok (.ifCond .eq 6, 3) := by decide +kernel
theorem dX7_bride_64 : decode cX7_bride 64 = .ok (.iload 4, 2) := by decide +kernel
theorem dX7_bride_66 : decode cX7_bride 66 = .ok (.ireturn, 1) := by decide +kernel
theorem dX7_bride_67 : decode cX7_bride 67 = .ok (.iinc 4 1, 3) := by decide +kernel
theorem dX7_bride_70 : decode cX7_bride 70 = .ok (.goto (-38), 3) := by decide +kernel
theorem dX7_bride_73 : decode cX7_bride 73 = .ok (.iconst (-1), 1) := by decide +kernel
theorem dX7_bride_74 : decode cX7_bride 74 = .ok (.ireturn, 1) := by decide +kernel
set_option maxRecDepth 20000 in
theorem ggX7_thief_X7_isPlace : GoodIn wsX7_thief wsX7_isPlace := goodIn_r _ [4, 5, 6, 7, 3, 8] (by decide +kernel) (by decide +kernel)
set_option maxRecDepth 20000 in
theorem gX7_thief_X7_isPlace : GoodIn wsX7_thief (va_wsS RX7 99 yX7_isPlace wsX7_isPlace) := goodIn_app (goodIn_of _ (by decide +kernel)) ggX7_thief_X7_isPlace
set_option maxRecDepth 20000 in
theorem ggX7_thief_X7_isWind : GoodIn wsX7_thief wsX7_isWind := goodIn_r _ [11, 12, 6, 7, 3, 8] (by decide +kernel) (by decide +kernel)
set_option maxRecDepth 20000 in
theorem gX7_thief_X7_isWind : GoodIn wsX7_thief (va_wsS RX7 126 yX7_isWind wsX7_isWind) := goodIn_app (goodIn_of _ (by decide +kernel)) ggX7_thief_X7_isWind
set_option maxRecDepth 20000 in
theorem ggX7_thief_X7_isOne : GoodIn wsX7_thief wsX7_isOne := goodIn_r _ [16, 17, 6, 7, 3, 8, 58, 59, 60, 61, 62, 63, 64, 65, 66, 67, 68, 69, 70, 71, 72, 73, 74, 75] (by decide +kernel) (by decide +kernel)
set_option maxRecDepth 20000 in
theorem gX7_thief_X7_isOne : GoodIn wsX7_thief (wsV RX7 118 RX7 yX7_isOne wsX7_isOne) := goodIn_app (goodIn_of _ (by decide +kernel)) ggX7_thief_X7_isOne
set_option maxRecDepth 20000 in
theorem ggX7_thief_X7_bad : GoodIn wsX7_thief wsX7_bad := goodIn_r _ [21, 22, 23, 24, 3, 25, 26, 27, 58, 59, 60, 61, 62, 63, 64, 65, 66, 67, 68, 69, 70, 71, 72, 73, 74, 75] (by decide +kernel) (by decide +kernel)
set_option maxRecDepth 20000 in
theorem gX7_thief_X7_bad : GoodIn wsX7_thief (wsV RX7 111 RX7 yX7_bad wsX7_bad) := goodIn_app (goodIn_of _ (by decide +kernel)) ggX7_thief_X7_bad
set_option maxRecDepth 20000 in
theorem ggX7_thief_X7_of : GoodIn wsX7_thief wsX7_of := goodIn_r _ [31, 17, 58, 59, 60, 61, 62, 63, 64, 65, 66, 67, 68, 69, 70, 71, 72, 73, 74, 75] (by decide +kernel) (by decide +kernel)
set_option maxRecDepth 20000 in
theorem gX7_thief_X7_of : GoodIn wsX7_thief (wsV RX7 121 RX7 yX7_of wsX7_of) := goodIn_app (goodIn_of _ (by decide +kernel)) ggX7_thief_X7_of
set_option maxRecDepth 20000 in
theorem ggX7_thief_X7_notes : GoodIn wsX7_thief wsX7_notes := goodIn_r _ [34] (by decide +kernel) (by decide +kernel)
set_option maxRecDepth 20000 in
theorem gX7_thief_X7_notes : GoodIn wsX7_thief (va_wsS RX7 83 yX7_notes wsX7_notes) := goodIn_app (goodIn_of _ (by decide +kernel)) ggX7_thief_X7_notes
set_option maxRecDepth 20000 in
theorem ggX7_thief_X7_front : GoodIn wsX7_thief wsX7_front := goodIn_r _ [37, 32, 33, 3, 34] (by decide +kernel) (by decide +kernel)
set_option maxRecDepth 20000 in
theorem gX7_thief_X7_front : GoodIn wsX7_thief (va_wsS RX7 93 yX7_front wsX7_front) := goodIn_app (goodIn_of _ (by decide +kernel)) ggX7_thief_X7_front
set_option maxRecDepth 20000 in
theorem ggX7_thief_X7_called : GoodIn wsX7_thief wsX7_called := goodIn_r _ [41, 17, 28, 29, 30, 3, 31, 42, 43, 44, 45, 46, 47, 48, 49, 50, 51, 32, 33, 34, 52, 53, 54, 35, 36, 37, 55, 56, 57, 58, 59, 60, 61, 62, 63, 64, 65, 66, 67, 68, 69, 70, 71, 72, 73, 74, 75] (by decide +kernel) (by decide +kernel)
set_option maxRecDepth 20000 in
theorem gX7_thief_X7_called : GoodIn wsX7_thief (wsV RX7 195 RX7 yX7_called wsX7_called) := goodIn_app (goodIn_of _ (by decide +kernel)) ggX7_thief_X7_called
theorem dX7_thief_0 : decode cX7_thief 0 = .ok (.iload_n 1, 1) := by decide +kernel
theorem dX7_thief_1 : decode cX7_thief 1 = .ok (.invokestatic 99, 3) := by decide +kernel
theorem dX7_thief_4 : decode cX7_thief 4 = .ok (.ifCond .eq 18, 3) := by decide +kernel
theorem dX7_thief_7 : decode cX7_thief 7 = .ok (.iload_n 2, 1) := by decide +kernel
theorem dX7_thief_8 : decode cX7_thief 8 = .ok (.invokestatic 126, 3) := by decide +kernel
theorem dX7_thief_11 : decode cX7_thief 11 = .ok (.ifCond .eq 11, 3) := by decide +kernel
theorem dX7_thief_14 : decode cX7_thief 14 = .ok (.aload_n 0, 1) := by decide +kernel
theorem dX7_thief_15 : decode cX7_thief 15 = .ok (.iload_n 3, 1) := by decide +kernel
theorem dX7_thief_16 : decode cX7_thief 16 = .ok (.invokevirtual 118, 3) := by decide +kernel
theorem dX7_thief_19 : decode cX7_thief 19 = .ok (.ifCond .ne 8, 3) := by decide +kernel
theorem dX7_thief_22 : decode cX7_thief 22 = .ok (.aload_n 0, 1) := by decide +kernel
theorem dX7_thief_23 : decode cX7_thief 23 = .ok (.invokevirtual 111, 3) := by decide +kernel
theorem dX7_thief_26 : decode cX7_thief 26 = .ok (.ireturn, 1) := by decide +kernel
theorem dX7_thief_27 : decode cX7_thief 27 = .ok (.iconst 1, 1) := by decide +kernel
theorem dX7_thief_28 : decode cX7_thief 28 = .ok (.istore 4, 2) := by decide +kernel
theorem dX7_thief_30 : decode cX7_thief 30 = .ok (.iload 4, 2) := by decide +kernel
theorem dX7_thief_32 : decode cX7_thief 32 = .ok (.aload_n 0, 1) := by decide +kernel
theorem dX7_thief_33 : decode cX7_thief 33 = .ok (.iload_n 3, 1) := by decide +kernel
theorem dX7_thief_34 : decode cX7_thief 34 = .ok (.iconst 1, 1) := by decide +kernel
theorem dX7_thief_35 : decode cX7_thief 35 = .ok (.invokevirtual 121, 3) := by decide +kernel
theorem dX7_thief_38 : decode cX7_thief 38 = .ok (.invokestatic 83, 3) := by decide +kernel
theorem dX7_thief_41 : decode cX7_thief 41 = .ok (.if_icmp .gt 35, 3) := by decide +kernel
theorem dX7_thief_44 : decode cX7_thief 44 = .ok (.aload_n 0, 1) := by decide +kernel
theorem dX7_thief_45 : decode cX7_thief 45 = .ok (.iload_n 1, 1) := by decide +kernel
theorem dX7_thief_46 : decode cX7_thief 46 = .ok (.aload_n 0, 1) := by decide +kernel
theorem dX7_thief_47 : decode cX7_thief 47 = .ok (.iload_n 3, 1) := by decide +kernel
theorem dX7_thief_48 : decode cX7_thief 48 = .ok (.iconst 1, 1) := by decide +kernel
theorem dX7_thief_49 : decode cX7_thief 49 = .ok (.invokevirtual 121, 3) := by decide +kernel
theorem dX7_thief_52 : decode cX7_thief 52 = .ok (.iload 4, 2) := by decide +kernel
theorem dX7_thief_54 : decode cX7_thief 54 = .ok (.invokestatic 93, 3) := by decide +kernel
theorem dX7_thief_57 : decode cX7_thief 57 = .ok (.iload_n 2, 1) := by decide +kernel
theorem dX7_thief_58 : decode cX7_thief 58 = .ok (.invokevirtual 195, 3) := by decide +kernel
theorem dX7_thief_61 : decode cX7_thief 61 = .ok (.iconst 1, 1) := by decide +kernel
theorem dX7_thief_62 : decode cX7_thief 62 = .ok (.iload_n 3, 1) := by decide +kernel
theorem dX7_thief_63 : decode cX7_thief 63 = .ok (.ishl, 1) := by decide +kernel
theorem dX7_thief_64 : decode cX7_thief 64 = .ok (.if_icmp .ne 6, 3) := by decide +kernel
theorem dX7_thief_67 : decode cX7_thief 67 = .ok (.iload 4, 2) := by decide +kernel
theorem dX7_thief_69 : decode cX7_thief 69 = .ok (.ireturn, 1) := by decide +kernel
theorem dX7_thief_70 : decode cX7_thief 70 = .ok (.iinc 4 1, 3) := by decide +kernel
theorem dX7_thief_73 : decode cX7_thief 73 = .ok (.goto (-43), 3) := by decide +kernel
theorem dX7_thief_76 : decode cX7_thief 76 = .ok (.iconst (-1), 1) := by decide +kernel
theorem dX7_thief_77 : decode cX7_thief 77 = .ok (.ireturn, 1) := by decide +kernel
set_option maxRecDepth 20000 in
theorem ggX7_whistled_X7_isPlace : GoodIn wsX7_whistled wsX7_isPlace := goodIn_r _ [5, 6, 7, 8, 4, 9] (by decide +kernel) (by decide +kernel)
set_option maxRecDepth 20000 in
theorem gX7_whistled_X7_isPlace : GoodIn wsX7_whistled (va_wsS RX7 99 yX7_isPlace wsX7_isPlace) := goodIn_app (goodIn_of _ (by decide +kernel)) ggX7_whistled_X7_isPlace
set_option maxRecDepth 20000 in
theorem ggX7_whistled_X7_isWind : GoodIn wsX7_whistled wsX7_isWind := goodIn_r _ [12, 13, 7, 8, 4, 9] (by decide +kernel) (by decide +kernel)
set_option maxRecDepth 20000 in
theorem gX7_whistled_X7_isWind : GoodIn wsX7_whistled (va_wsS RX7 126 yX7_isWind wsX7_isWind) := goodIn_app (goodIn_of _ (by decide +kernel)) ggX7_whistled_X7_isWind
set_option maxRecDepth 20000 in
theorem ggX7_whistled_X7_in : GoodIn wsX7_whistled wsX7_in := goodIn_r _ [9] (by decide +kernel) (by decide +kernel)
set_option maxRecDepth 20000 in
theorem gX7_whistled_X7_in : GoodIn wsX7_whistled (va_wsS RX7 57 yX7_in wsX7_in) := goodIn_app (goodIn_of _ (by decide +kernel)) ggX7_whistled_X7_in
set_option maxRecDepth 20000 in
theorem ggX7_whistled_X7_bad : GoodIn wsX7_whistled wsX7_bad := goodIn_r _ [17, 18, 19, 20, 4, 21, 22, 23, 71, 72, 73, 74, 75, 76, 77, 78, 79, 80, 81, 82, 83, 84, 85, 86, 87, 88] (by decide +kernel) (by decide +kernel)
set_option maxRecDepth 20000 in
theorem gX7_whistled_X7_bad : GoodIn wsX7_whistled (wsV RX7 111 RX7 yX7_bad wsX7_bad) := goodIn_app (goodIn_of _ (by decide +kernel)) ggX7_whistled_X7_bad
set_option maxRecDepth 20000 in
theorem ggX7_whistled_X7_isTune : GoodIn wsX7_whistled wsX7_isTune := goodIn_r _ [26, 27, 28, 29, 30, 31, 32, 33, 34, 35, 36, 7, 8, 4, 9] (by decide +kernel) (by decide +kernel)
set_option maxRecDepth 20000 in
theorem gX7_whistled_X7_isTune : GoodIn wsX7_whistled (va_wsS RX7 108 yX7_isTune wsX7_isTune) := goodIn_app (goodIn_of _ (by decide +kernel)) ggX7_whistled_X7_isTune
set_option maxRecDepth 20000 in
theorem ggX7_whistled_X7_called : GoodIn wsX7_whistled wsX7_called := goodIn_r _ [40, 1, 41, 42, 43, 4, 44, 45, 46, 47, 48, 49, 50, 51, 52, 53, 54, 55, 56, 57, 58, 59, 60, 61, 62, 63, 64, 65, 66, 71, 72, 73, 74, 75, 76, 77, 78, 79, 80, 81, 82, 83, 84, 85, 86, 87, 88] (by decide +kernel) (by decide +kernel)
set_option maxRecDepth 20000 in
theorem gX7_whistled_X7_called : GoodIn wsX7_whistled (wsV RX7 195 RX7 yX7_called wsX7_called) := goodIn_app (goodIn_of _ (by decide +kernel)) ggX7_whistled_X7_called
set_option maxRecDepth 20000 in
theorem ggX7_whistled_X7_no : GoodIn wsX7_whistled wsX7_no := goodIn_r _ [70, 18, 19, 20, 4, 21, 22, 23, 71, 72, 73, 74, 75, 76, 77, 78, 79, 80, 81, 82, 83, 84, 85, 86, 87, 88] (by decide +kernel) (by decide +kernel)
set_option maxRecDepth 20000 in
theorem gX7_whistled_X7_no : GoodIn wsX7_whistled (wsV RX7 198 RX7 yX7_no wsX7_no) := goodIn_app (goodIn_of _ (by decide +kernel)) ggX7_whistled_X7_no
theorem dX7_whistled_0 : decode cX7_whistled 0 = .ok (.iload_n 1, 1) := by decide +kernel
theorem dX7_whistled_1 : decode cX7_whistled 1 = .ok (.invokestatic 99, 3) := by decide +kernel
theorem dX7_whistled_4 : decode cX7_whistled 4 = .ok (.ifCond .eq 42, 3) := by decide +kernel
theorem dX7_whistled_7 : decode cX7_whistled 7 = .ok (.iload_n 2, 1) := by decide +kernel
theorem dX7_whistled_8 : decode cX7_whistled 8 = .ok (.invokestatic 126, 3) := by decide +kernel
theorem dX7_whistled_11 : decode cX7_whistled 11 = .ok (.ifCond .eq 35, 3) := by decide +kernel
theorem dX7_whistled_14 : decode cX7_whistled 14 = .ok (.iload_n 3, 1) := by decide +kernel
theorem dX7_whistled_15 : decode cX7_whistled 15 = .ok (.i2l, 1) := by decide +kernel
theorem dX7_whistled_16 : decode cX7_whistled 16 = .ok (.lconst 0, 1) := by decide +kernel
theorem dX7_whistled_17 : decode cX7_whistled 17 = .ok (.iconst 1, 1) := by decide +kernel
theorem dX7_whistled_18 : decode cX7_whistled 18 = .ok (.aload_n 0, 1) := by decide +kernel
theorem dX7_whistled_19 : decode cX7_whistled 19 = .ok (.getfield 7, 3) := by decide +kernel
theorem dX7_whistled_22 : decode cX7_whistled 22 = .ok (.bipush 15, 2) := by decide +kernel
theorem dX7_whistled_24 : decode cX7_whistled 24 = .ok (.iaload, 1) := by decide +kernel
theorem dX7_whistled_25 : decode cX7_whistled 25 = .ok (.ishl, 1) := by decide +kernel
theorem dX7_whistled_26 : decode cX7_whistled 26 = .ok (.iconst 1, 1) := by decide +kernel
theorem dX7_whistled_27 : decode cX7_whistled 27 = .ok (.isub, 1) := by decide +kernel
theorem dX7_whistled_28 : decode cX7_whistled 28 = .ok (.i2l, 1) := by decide +kernel
theorem dX7_whistled_29 : decode cX7_whistled 29 = .ok (.invokestatic 57, 3) := by decide +kernel
theorem dX7_whistled_32 : decode cX7_whistled 32 = .ok (.ifCond .eq 14, 3) := by decide +kernel
theorem dX7_whistled_35 : decode cX7_whistled 35 = .ok (.iload 4, 2) := by decide +kernel
theorem dX7_whistled_37 : decode cX7_whistled 37 = .ok (.i2l, 1) := by decide +kernel
theorem dX7_whistled_38 : decode cX7_whistled 38 = .ok (.lconst 0, 1) := by decide +kernel
theorem dX7_whistled_39 : decode cX7_whistled 39 = .ok (.lconst 1, 1) := by decide +kernel
theorem dX7_whistled_40 : decode cX7_whistled 40 = .ok (.invokestatic 57, 3) := by decide +kernel
theorem dX7_whistled_43 : decode cX7_whistled 43 = .ok (.ifCond .ne 8, 3) := by decide +kernel
theorem dX7_whistled_46 : decode cX7_whistled 46 = .ok (.aload_n 0, 1) := by decide +kernel
theorem dX7_whistled_47 : decode cX7_whistled 47 = .ok (.invokevirtual 111, 3) := by decide +kernel
theorem dX7_whistled_50 : decode cX7_whistled 50 = .ok (.ireturn, 1) := by decide +kernel
theorem dX7_whistled_51 : decode cX7_whistled 51 = .ok (.iconst 0, 1) := by decide +kernel
theorem dX7_whistled_52 : decode cX7_whistled 52 = .ok (.istore 5, 2) := by decide +kernel
theorem dX7_whistled_54 : decode cX7_whistled 54 = .ok (.iconst (-1), 1) := by decide +kernel
theorem dX7_whistled_55 : decode cX7_whistled 55 = .ok (.istore 6, 2) := by decide +kernel
theorem dX7_whistled_57 : decode cX7_whistled 57 = .ok (.iconst 4, 1) := by decide +kernel
theorem dX7_whistled_58 : decode cX7_whistled 58 = .ok (.istore 7, 2) := by decide +kernel
theorem dX7_whistled_60 : decode cX7_whistled 60 = .ok (.iload 7, 2) := by decide +kernel
theorem dX7_whistled_62 : decode cX7_whistled 62 = .ok (.sipush 2048, 3) := by decide +kernel
theorem dX7_whistled_65 : decode cX7_whistled 65 = .ok (.if_icmp .ge 47, 3) := by decide +kernel
theorem dX7_whistled_68 : decode cX7_whistled 68 = .ok (.iload 7, 2) := by decide +kernel
theorem dX7_whistled_70 : decode cX7_whistled 70 = .ok (.invokestatic 108, 3) := by decide +kernel
theorem dX7_whistled_73 : decode cX7_whistled 73 = .ok (.ifCond .eq 33, 3) := by decide +kernel
theorem dX7_whistled_76 : decode cX7_whistled 76 = .ok (.aload_n 0, 1) := by decide +kernel
theorem dX7_whistled_77 : decode cX7_whistled 77 = .ok (.iload_n 1, 1) := by decide +kernel
theorem dX7_whistled_78 : decode cX7_whistled 78 = .ok (.iload 7, 2) := by decide +kernel
theorem dX7_whistled_80 : decode cX7_whistled 80 = .ok (.iload_n 2, 1) := by decide +kernel
theorem dX7_whistled_81 : decode cX7_whistled 81 = .ok (.invokevirtual 195, 3) := by decide +kernel
theorem dX7_whistled_84 : decode cX7_whistled 84 = .ok (.iload_n 3, 1) := by decide +kernel
theorem dX7_whistled_85 : decode cX7_whistled 85 = .ok (.if_icmp .ne 21, 3) := by decide +kernel
theorem dX7_whistled_88 : decode cX7_whistled 88 = .ok (.iinc 5 1, 3) := by decide +kernel
theorem dX7_whistled_91 : decode cX7_whistled 91 = .ok (.iload 6, 2) := by decide +kernel
theorem dX7_whistled_93 : decode cX7_whistled 93 = .ok (.iconst (-1), 1) := by decide +kernel
theorem dX7_whistled_94 : decode cX7_whistled 94 = .ok (.if_icmp .ne 8, 3) := by decide +kernel
theorem dX7_whistled_97 : decode cX7_whistled 97 = .ok (.iload 7, 2) := by decide +kernel
theorem dX7_whistled_99 : decode cX7_whistled 99 = .ok (.goto 5, 3) := by decide +kernel
theorem dX7_whistled_102 : decode cX7_whistled 102 = .ok (.iload 6, 2) := by decide +kernel
theorem dX7_whistled_104 : decode cX7_whistled 104 = .ok (.istore 6, 2) := by decide +kernel
theorem dX7_whistled_106 : decode cX7_whistled 106 = .ok (.iinc 7 1, 3) := by decide +kernel
theorem dX7_whistled_109 : decode cX7_whistled 109 = .ok (.goto (-49), 3) := by decide +kernel
theorem dX7_whistled_112 : decode cX7_whistled 112 = .ok (.iload 4, 2) := by decide +kernel
theorem dX7_whistled_114 : decode cX7_whistled 114 = .ok (.ifCond .ne 8, 3) := by decide +kernel
theorem dX7_whistled_117 : decode cX7_whistled 117 = .ok (.iload 5, 2) := by decide +kernel
theorem dX7_whistled_119 : decode cX7_whistled 119 = .ok (.goto 18, 3) := by decide +kernel
theorem dX7_whistled_122 : decode cX7_whistled 122 = .ok (.iload 6, 2) := by decide +kernel
theorem dX7_whistled_124 : decode cX7_whistled 124 = .ok (.iconst (-1), 1) := by decide +kernel
theorem dX7_whistled_125 : decode cX7_whistled 125 = .ok (.if_icmp .ne 10, 3) := by decide +kernel
theorem dX7_whistled_128 : decode cX7_whistled 128 = .ok (.aload_n 0, 1) := by decide +kernel
theorem dX7_whistled_129 : decode cX7_whistled 129 = .ok (.invokevirtual 198, 3) := by decide +kernel
theorem dX7_whistled_132 : decode cX7_whistled 132 = .ok (.goto 5, 3) := by decide +kernel
theorem dX7_whistled_135 : decode cX7_whistled 135 = .ok (.iload 6, 2) := by decide +kernel
theorem dX7_whistled_137 : decode cX7_whistled 137 = .ok (.ireturn, 1) := by decide +kernel
set_option maxRecDepth 20000 in
theorem ggX7_takes_X7_of : GoodIn wsX7_takes wsX7_of := goodIn_r _ [6, 7, 34, 35, 36, 37, 38, 39, 40, 41, 42, 43, 44, 45, 46, 47, 48, 49, 50, 51] (by decide +kernel) (by decide +kernel)
set_option maxRecDepth 20000 in
theorem gX7_takes_X7_of : GoodIn wsX7_takes (wsV RX7 121 RX7 yX7_of wsX7_of) := goodIn_app (goodIn_of _ (by decide +kernel)) ggX7_takes_X7_of
set_option maxRecDepth 20000 in
theorem ggX7_takes_X7_called : GoodIn wsX7_takes wsX7_called := goodIn_r _ [11, 7, 2, 3, 4, 5, 6, 12, 13, 14, 15, 16, 17, 18, 19, 20, 21, 22, 23, 24, 25, 26, 27, 28, 29, 30, 31, 32, 33, 34, 35, 36, 37, 38, 39, 40, 41, 42, 43, 44, 45, 46, 47, 48, 49, 50, 51] (by decide +kernel) (by decide +kernel)
set_option maxRecDepth 20000 in
theorem gX7_takes_X7_called : GoodIn wsX7_takes (wsV RX7 195 RX7 yX7_called wsX7_called) := goodIn_app (goodIn_of _ (by decide +kernel)) ggX7_takes_X7_called
set_option maxRecDepth 20000 in
theorem ggX7_takes_X7_notes : GoodIn wsX7_takes wsX7_notes := goodIn_r _ [24] (by decide +kernel) (by decide +kernel)
set_option maxRecDepth 20000 in
theorem gX7_takes_X7_notes : GoodIn wsX7_takes (va_wsS RX7 83 yX7_notes wsX7_notes) := goodIn_app (goodIn_of _ (by decide +kernel)) ggX7_takes_X7_notes
theorem dX7_takes_0 : decode cX7_takes 0 = .ok (.iload_n 1, 1) := by decide +kernel
theorem dX7_takes_1 : decode cX7_takes 1 = .ok (.iload_n 2, 1) := by decide +kernel
theorem dX7_takes_2 : decode cX7_takes 2 = .ok (.if_icmp .eq 36, 3) := by decide +kernel
theorem dX7_takes_5 : decode cX7_takes 5 = .ok (.aload_n 0, 1) := by decide +kernel
theorem dX7_takes_6 : decode cX7_takes 6 = .ok (.aload_n 0, 1) := by decide +kernel
theorem dX7_takes_7 : decode cX7_takes 7 = .ok (.iload_n 1, 1) := by decide +kernel
theorem dX7_takes_8 : decode cX7_takes 8 = .ok (.iconst 2, 1) := by decide +kernel
theorem dX7_takes_9 : decode cX7_takes 9 = .ok (.invokevirtual 121, 3) := by decide +kernel
theorem dX7_takes_12 : decode cX7_takes 12 = .ok (.aload_n 0, 1) := by decide +kernel
theorem dX7_takes_13 : decode cX7_takes 13 = .ok (.iload_n 2, 1) := by decide +kernel
theorem dX7_takes_14 : decode cX7_takes 14 = .ok (.iconst 1, 1) := by decide +kernel
theorem dX7_takes_15 : decode cX7_takes 15 = .ok (.invokevirtual 121, 3) := by decide +kernel
theorem dX7_takes_18 : decode cX7_takes 18 = .ok (.iload_n 3, 1) := by decide +kernel
theorem dX7_takes_19 : decode cX7_takes 19 = .ok (.invokevirtual 195, 3) := by decide +kernel
theorem dX7_takes_22 : decode cX7_takes 22 = .ok (.iconst 1, 1) := by decide +kernel
theorem dX7_takes_23 : decode cX7_takes 23 = .ok (.iload_n 1, 1) := by decide +kernel
theorem dX7_takes_24 : decode cX7_takes 24 = .ok (.ishl, 1) := by decide +kernel
theorem dX7_takes_25 : decode cX7_takes 25 = .ok (.iconst (-1), 1) := by decide +kernel
theorem dX7_takes_26 : decode cX7_takes 26 = .ok (.ixor, 1) := by decide +kernel
theorem dX7_takes_27 : decode cX7_takes 27 = .ok (.iand, 1) := by decide +kernel
theorem dX7_takes_28 : decode cX7_takes 28 = .ok (.iconst 1, 1) := by decide +kernel
theorem dX7_takes_29 : decode cX7_takes 29 = .ok (.iload_n 2, 1) := by decide +kernel
theorem dX7_takes_30 : decode cX7_takes 30 = .ok (.ishl, 1) := by decide +kernel
theorem dX7_takes_31 : decode cX7_takes 31 = .ok (.if_icmp .ne 7, 3) := by decide +kernel
theorem dX7_takes_34 : decode cX7_takes 34 = .ok (.iconst 1, 1) := by decide +kernel
theorem dX7_takes_35 : decode cX7_takes 35 = .ok (.goto 4, 3) := by decide +kernel
theorem dX7_takes_38 : decode cX7_takes 38 = .ok (.iconst 0, 1) := by decide +kernel
theorem dX7_takes_39 : decode cX7_takes 39 = .ok (.istore 4, 2) := by decide +kernel
theorem dX7_takes_41 : decode cX7_takes 41 = .ok (.iload 4, 2) := by decide +kernel
theorem dX7_takes_43 : decode cX7_takes 43 = .ok (.ifCond .eq 15, 3) := by decide +kernel
theorem dX7_takes_46 : decode cX7_takes 46 = .ok (.aload_n 0, 1) := by decide +kernel
theorem dX7_takes_47 : decode cX7_takes 47 = .ok (.iload_n 2, 1) := by decide +kernel
theorem dX7_takes_48 : decode cX7_takes 48 = .ok (.iconst 1, 1) := by decide +kernel
theorem dX7_takes_49 : decode cX7_takes 49 = .ok (.invokevirtual 121, 3) := by decide +kernel
theorem dX7_takes_52 : decode cX7_takes 52 = .ok (.invokestatic 83, 3) := by decide +kernel
theorem dX7_takes_55 : decode cX7_takes 55 = .ok (.goto 5, 3) := by decide +kernel
theorem dX7_takes_58 : decode cX7_takes 58 = .ok (.ldc 225, 2) := by decide +kernel
theorem dX7_takes_60 : decode cX7_takes 60 = .ok (.ireturn, 1) := by decide +kernel
set_option maxRecDepth 20000 in
theorem ggX7_word_X7_isOne : GoodIn wsX7_word wsX7_isOne := goodIn_r _ [8, 1, 9, 10, 7, 11, 60, 61, 62, 63, 64, 65, 66, 67, 68, 69, 70, 71, 72, 73, 74, 75, 76, 77] (by decide +kernel) (by decide +kernel)
set_option maxRecDepth 20000 in
theorem gX7_word_X7_isOne : GoodIn wsX7_word (wsV RX7 118 RX7 yX7_isOne wsX7_isOne) := goodIn_app (goodIn_of _ (by decide +kernel)) ggX7_word_X7_isOne
set_option maxRecDepth 20000 in
theorem ggX7_word_X7_isWind : GoodIn wsX7_word wsX7_isWind := goodIn_r _ [14, 15, 9, 10, 7, 11] (by decide +kernel) (by decide +kernel)
set_option maxRecDepth 20000 in
theorem gX7_word_X7_isWind : GoodIn wsX7_word (va_wsS RX7 126 yX7_isWind wsX7_isWind) := goodIn_app (goodIn_of _ (by decide +kernel)) ggX7_word_X7_isWind
set_option maxRecDepth 20000 in
theorem ggX7_word_X7_in : GoodIn wsX7_word wsX7_in := goodIn_r _ [11] (by decide +kernel) (by decide +kernel)
set_option maxRecDepth 20000 in
theorem gX7_word_X7_in : GoodIn wsX7_word (va_wsS RX7 57 yX7_in wsX7_in) := goodIn_app (goodIn_of _ (by decide +kernel)) ggX7_word_X7_in
set_option maxRecDepth 20000 in
theorem ggX7_word_X7_bad : GoodIn wsX7_word wsX7_bad := goodIn_r _ [19, 20, 21, 22, 7, 23, 24, 25, 60, 61, 62, 63, 64, 65, 66, 67, 68, 69, 70, 71, 72, 73, 74, 75, 76, 77] (by decide +kernel) (by decide +kernel)
set_option maxRecDepth 20000 in
theorem gX7_word_X7_bad : GoodIn wsX7_word (wsV RX7 111 RX7 yX7_bad wsX7_bad) := goodIn_app (goodIn_of _ (by decide +kernel)) ggX7_word_X7_bad
set_option maxRecDepth 20000 in
theorem ggX7_word_X7_takes : GoodIn wsX7_word wsX7_takes := goodIn_r _ [29, 3, 30, 31, 32, 7, 33, 1, 34, 35, 36, 37, 38, 39, 40, 41, 42, 43, 44, 45, 46, 47, 48, 49, 50, 51, 52, 53, 54, 55, 56, 57, 58, 59, 60, 61, 62, 63, 64, 65, 66, 67, 68, 69, 70, 71, 72, 73, 74, 75, 76, 77] (by decide +kernel) (by decide +kernel)
set_option maxRecDepth 20000 in
theorem gX7_word_X7_takes : GoodIn wsX7_word (wsV RX7 226 RX7 yX7_takes wsX7_takes) := goodIn_app (goodIn_of _ (by decide +kernel)) ggX7_word_X7_takes
theorem dX7_word_0 : decode cX7_word 0 = .ok (.aload_n 0, 1) := by decide +kernel
theorem dX7_word_1 : decode cX7_word 1 = .ok (.iload_n 1, 1) := by decide +kernel
theorem dX7_word_2 : decode cX7_word 2 = .ok (.invokevirtual 118, 3) := by decide +kernel
theorem dX7_word_5 : decode cX7_word 5 = .ok (.ifCond .eq 34, 3) := by decide +kernel
theorem dX7_word_8 : decode cX7_word 8 = .ok (.aload_n 0, 1) := by decide +kernel
theorem dX7_word_9 : decode cX7_word 9 = .ok (.iload_n 2, 1) := by decide +kernel
theorem dX7_word_10 : decode cX7_word 10 = .ok (.invokevirtual 118, 3) := by decide +kernel
theorem dX7_word_13 : decode cX7_word 13 = .ok (.ifCond .eq 26, 3) := by decide +kernel
theorem dX7_word_16 : decode cX7_word 16 = .ok (.iload_n 1, 1) := by decide +kernel
theorem dX7_word_17 : decode cX7_word 17 = .ok (.iload_n 2, 1) := by decide +kernel
theorem dX7_word_18 : decode cX7_word 18 = .ok (.if_icmp .eq 21, 3) := by decide +kernel
theorem dX7_word_21 : decode cX7_word 21 = .ok (.iload_n 3, 1) := by decide +kernel
theorem dX7_word_22 : decode cX7_word 22 = .ok (.invokestatic 126, 3) := by decide +kernel
theorem dX7_word_25 : decode cX7_word 25 = .ok (.ifCond .eq 14, 3) := by decide +kernel
theorem dX7_word_28 : decode cX7_word 28 = .ok (.iload 4, 2) := by decide +kernel
theorem dX7_word_30 : decode cX7_word 30 = .ok (.i2l, 1) := by decide +kernel
theorem dX7_word_31 : decode cX7_word 31 = .ok (.lconst 0, 1) := by decide +kernel
theorem dX7_word_32 : decode cX7_word 32 = .ok (.lconst 1, 1) := by decide +kernel
theorem dX7_word_33 : decode cX7_word 33 = .ok (.invokestatic 57, 3) := by decide +kernel
theorem dX7_word_36 : decode cX7_word 36 = .ok (.ifCond .ne 8, 3) := by decide +kernel
theorem dX7_word_39 : decode cX7_word 39 = .ok (.aload_n 0, 1) := by decide +kernel
theorem dX7_word_40 : decode cX7_word 40 = .ok (.invokevirtual 111, 3) := by decide +kernel
theorem dX7_word_43 : decode cX7_word 43 = .ok (.ireturn, 1) := by decide +kernel
theorem dX7_word_44 : decode cX7_word 44 = .ok (.iconst 0, 1) := by decide +kernel
theorem dX7_word_45 : decode cX7_word 45 = .ok (.istore 5, 2) := by decide +kernel
theorem dX7_word_47 : decode cX7_word 47 = .ok (.iload 5, 2) := by decide +kernel
theorem dX7_word_49 : decode cX7_word 49 = .ok (.aload_n 0, 1) := by decide +kernel
theorem dX7_word_50 : decode cX7_word 50 = .ok (.getfield 7, 3) := by decide +kernel
theorem dX7_word_53 : decode cX7_word 53 = .ok (.bipush 15, 2) := by decide +kernel
theorem dX7_word_55 : decode cX7_word 55 = .ok (.iaload, 1) := by decide +kernel
theorem dX7_word_56 : decode cX7_word 56 = .ok (.if_icmp .ge 28, 3) := by decide +kernel
theorem dX7_word_59 : decode cX7_word 59 = .ok (.aload_n 0, 1) := by decide +kernel
theorem dX7_word_60 : decode cX7_word 60 = .ok (.getfield 41, 3) := by decide +kernel
theorem dX7_word_63 : decode cX7_word 63 = .ok (.iload 5, 2) := by decide +kernel
theorem dX7_word_65 : decode cX7_word 65 = .ok (.iload 5, 2) := by decide +kernel
theorem dX7_word_67 : decode cX7_word 67 = .ok (.iload_n 1, 1) := by decide +kernel
theorem dX7_word_68 : decode cX7_word 68 = .ok (.if_icmp .ne 7, 3) := by decide +kernel
theorem dX7_word_71 : decode cX7_word 71 = .ok (.iconst 0, 1) := by decide +kernel
theorem dX7_word_72 : decode cX7_word 72 = .ok (.goto 5, 3) := by decide +kernel
theorem dX7_word_75 : decode cX7_word 75 = .ok (.ldc 225, 2) := by decide +kernel
theorem dX7_word_77 : decode cX7_word 77 = .ok (.iastore, 1) := by decide +kernel
theorem dX7_word_78 : decode cX7_word 78 = .ok (.iinc 5 1, 3) := by decide +kernel
theorem dX7_word_81 : decode cX7_word 81 = .ok (.goto (-34), 3) := by decide +kernel
theorem dX7_word_84 : decode cX7_word 84 = .ok (.iconst 0, 1) := by decide +kernel
theorem dX7_word_85 : decode cX7_word 85 = .ok (.istore 5, 2) := by decide +kernel
theorem dX7_word_87 : decode cX7_word 87 = .ok (.iload 5, 2) := by decide +kernel
theorem dX7_word_89 : decode cX7_word 89 = .ok (.bipush 7, 2) := by decide +kernel
theorem dX7_word_91 : decode cX7_word 91 = .ok (.if_icmp .ge 101, 3) := by decide +kernel
theorem dX7_word_94 : decode cX7_word 94 = .ok (.iconst 0, 1) := by decide +kernel
theorem dX7_word_95 : decode cX7_word 95 = .ok (.istore 6, 2) := by decide +kernel
theorem dX7_word_97 : decode cX7_word 97 = .ok (.iload 6, 2) := by decide +kernel
theorem dX7_word_99 : decode cX7_word 99 = .ok (.aload_n 0, 1) := by decide +kernel
theorem dX7_word_100 : decode cX7_word 100 = .ok (.getfield 7, 3) := by decide +kernel
theorem dX7_word_103 : decode cX7_word 103 = .ok (.bipush 15, 2) := by decide +kernel
theorem dX7_word_105 : decode cX7_word 105 = .ok (.iaload, 1) := by decide +kernel
theorem dX7_word_106 : decode cX7_word 106 = .ok (.if_icmp .ge 80, 3) := by decide +kernel
theorem dX7_word_109 : decode cX7_word 109 = .ok (.iconst 0, 1) := by decide +kernel
theorem dX7_word_110 : decode cX7_word 110 = .ok (.istore 7, 2) := by decide +kernel
theorem dX7_word_112 : decode cX7_word 112 = .ok (.iload 7, 2) := by decide +kernel
theorem dX7_word_114 : decode cX7_word 114 = .ok (.aload_n 0, 1) := by decide +kernel
theorem dX7_word_115 : decode cX7_word 115 = .ok (.getfield 7, 3) := by decide +kernel
theorem dX7_word_118 : decode cX7_word 118 = .ok (.bipush 15, 2) := by decide +kernel
theorem dX7_word_120 : decode cX7_word 120 = .ok (.iaload, 1) := by decide +kernel
theorem dX7_word_121 : decode cX7_word 121 = .ok (.if_icmp .ge 59, 3) := by decide +kernel
theorem dX7_word_124 : decode cX7_word 124 = .ok (.aload_n 0, 1) := by decide +kernel
theorem dX7_word_125 : decode cX7_word 125 = .ok (.getfield 41, 3) := by decide +kernel
theorem dX7_word_128 : decode cX7_word 128 = .ok (.iload 6, 2) := by decide +kernel
theorem dX7_word_130 : decode cX7_word 130 = .ok (.iaload, 1) := by decide +kernel
theorem dX7_word_131 : decode cX7_word 131 = .ok (.aload_n 0, 1) := by decide +kernel
theorem dX7_word_132 : decode cX7_word 132 = .ok (.iload 6, 2) := by decide +kernel
theorem dX7_word_134 : decode cX7_word 134 = .ok (.iload 7, 2) := by decide +kernel
theorem dX7_word_136 : decode cX7_word 136 = .ok (.iload_n 3, 1) := by decide +kernel
theorem dX7_word_137 : decode cX7_word 137 = .ok (.invokevirtual 226, 3) := by decide +kernel
theorem dX7_word_140 : decode cX7_word 140 = .ok (.iadd, 1) := by decide +kernel
theorem dX7_word_141 : decode cX7_word 141 = .ok (.istore 8, 2) := by decide +kernel
theorem dX7_word_143 : decode cX7_word 143 = .ok (.aload_n 0, 1) := by decide +kernel
theorem dX7_word_144 : decode cX7_word 144 = .ok (.getfield 41, 3) := by decide +kernel
theorem dX7_word_147 : decode cX7_word 147 = .ok (.iload 7, 2) := by decide +kernel
theorem dX7_word_149 : decode cX7_word 149 = .ok (.iload 8, 2) := by decide +kernel
theorem dX7_word_151 : decode cX7_word 151 = .ok (.aload_n 0, 1) := by decide +kernel
theorem dX7_word_152 : decode cX7_word 152 = .ok (.getfield 41, 3) := by decide +kernel
theorem dX7_word_155 : decode cX7_word 155 = .ok (.iload 7, 2) := by decide +kernel
theorem dX7_word_157 : decode cX7_word 157 = .ok (.iaload, 1) := by decide +kernel
theorem dX7_word_158 : decode cX7_word 158 = .ok (.if_icmp .ge 8, 3) := by decide +kernel
theorem dX7_word_161 : decode cX7_word 161 = .ok (.iload 8, 2) := by decide +kernel
theorem dX7_word_163 : decode cX7_word 163 = .ok (.goto 10, 3) := by decide +kernel
theorem dX7_word_166 : decode cX7_word 166 = .ok (.aload_n 0, 1) := by decide +kernel
theorem dX7_word_167 : decode cX7_word 167 = .ok (.getfield 41, 3) := by decide +kernel
theorem dX7_word_170 : decode cX7_word 170 = .ok (.iload 7, 2) := by decide +kernel
theorem dX7_word_172 : decode cX7_word 172 = .ok (.iaload, 1) := by decide +kernel
theorem dX7_word_173 : decode cX7_word 173 = .ok (.iastore, 1) := by decide +kernel
theorem dX7_word_174 : decode cX7_word 174 = .ok (.iinc 7 1, 3) := by decide +kernel
theorem dX7_word_177 : decode cX7_word 177 = .ok (.goto (-65), 3) := by decide +kernel
theorem dX7_word_180 : decode cX7_word 180 = .ok (.iinc 6 1, 3) := by decide +kernel
theorem dX7_word_183 : decode cX7_word 183 = .ok (.goto (-86), 3) := by decide +kernel
theorem dX7_word_186 : decode cX7_word 186 = .ok (.iinc 5 1, 3) := by decide +kernel
theorem dX7_word_189 : decode cX7_word 189 = .ok (.goto (-102), 3) := by decide +kernel
theorem dX7_word_192 : decode cX7_word 192 = .ok (.aload_n 0, 1) := by decide +kernel
theorem dX7_word_193 : decode cX7_word 193 = .ok (.getfield 41, 3) := by decide +kernel
theorem dX7_word_196 : decode cX7_word 196 = .ok (.iload_n 2, 1) := by decide +kernel
theorem dX7_word_197 : decode cX7_word 197 = .ok (.iaload, 1) := by decide +kernel
theorem dX7_word_198 : decode cX7_word 198 = .ok (.ldc 225, 2) := by decide +kernel
theorem dX7_word_200 : decode cX7_word 200 = .ok (.if_icmp .lt 5, 3) := by decide +kernel
theorem dX7_word_203 : decode cX7_word 203 = .ok (.iconst (-1), 1) := by decide +kernel
theorem dX7_word_204 : decode cX7_word 204 = .ok (.ireturn, 1) := by decide +kernel
theorem dX7_word_205 : decode cX7_word 205 = .ok (.iconst 0, 1) := by decide +kernel
theorem dX7_word_206 : decode cX7_word 206 = .ok (.istore 5, 2) := by decide +kernel
theorem dX7_word_208 : decode cX7_word 208 = .ok (.aload_n 0, 1) := by decide +kernel
theorem dX7_word_209 : decode cX7_word 209 = .ok (.getfield 41, 3) := by decide +kernel
theorem dX7_word_212 : decode cX7_word 212 = .ok (.iload 5, 2) := by decide +kernel
theorem dX7_word_214 : decode cX7_word 214 = .ok (.iaload, 1) := by decide +kernel
theorem dX7_word_215 : decode cX7_word 215 = .ok (.aload_n 0, 1) := by decide +kernel
theorem dX7_word_216 : decode cX7_word 216 = .ok (.iload 5, 2) := by decide +kernel
theorem dX7_word_218 : decode cX7_word 218 = .ok (.iload_n 2, 1) := by decide +kernel
theorem dX7_word_219 : decode cX7_word 219 = .ok (.iload_n 3, 1) := by decide +kernel
theorem dX7_word_220 : decode cX7_word 220 = .ok (.invokevirtual 226, 3) := by decide +kernel
theorem dX7_word_223 : decode cX7_word 223 = .ok (.iadd, 1) := by decide +kernel
theorem dX7_word_224 : decode cX7_word 224 = .ok (.aload_n 0, 1) := by decide +kernel
theorem dX7_word_225 : decode cX7_word 225 = .ok (.getfield 41, 3) := by decide +kernel
theorem dX7_word_228 : decode cX7_word 228 = .ok (.iload_n 2, 1) := by decide +kernel
theorem dX7_word_229 : decode cX7_word 229 = .ok (.iaload, 1) := by decide +kernel
theorem dX7_word_230 : decode cX7_word 230 = .ok (.if_icmp .eq 9, 3) := by decide +kernel
theorem dX7_word_233 : decode cX7_word 233 = .ok (.iinc 5 1, 3) := by decide +kernel
theorem dX7_word_236 : decode cX7_word 236 = .ok (.goto (-28), 3) := by decide +kernel
theorem dX7_word_239 : decode cX7_word 239 = .ok (.iload 4, 2) := by decide +kernel
theorem dX7_word_241 : decode cX7_word 241 = .ok (.ifCond .ne 12, 3) := by decide +kernel
theorem dX7_word_244 : decode cX7_word 244 = .ok (.aload_n 0, 1) := by decide +kernel
theorem dX7_word_245 : decode cX7_word 245 = .ok (.getfield 41, 3) := by decide +kernel
theorem dX7_word_248 : decode cX7_word 248 = .ok (.iload_n 2, 1) := by decide +kernel
theorem dX7_word_249 : decode cX7_word 249 = .ok (.iaload, 1) := by decide +kernel
theorem dX7_word_250 : decode cX7_word 250 = .ok (.goto 5, 3) := by decide +kernel
theorem dX7_word_253 : decode cX7_word 253 = .ok (.iload 5, 2) := by decide +kernel
theorem dX7_word_255 : decode cX7_word 255 = .ok (.ireturn, 1) := by decide +kernel
set_option maxRecDepth 20000 in
theorem ggX7_free_X7_isOne : GoodIn wsX7_free wsX7_isOne := goodIn_r _ [7, 2, 8, 9, 6, 10, 63, 64, 65, 66, 67, 68, 69, 70, 71, 72, 73, 74, 75, 76, 77, 78, 79, 80] (by decide +kernel) (by decide +kernel)
set_option maxRecDepth 20000 in
theorem gX7_free_X7_isOne : GoodIn wsX7_free (wsV RX7 118 RX7 yX7_isOne wsX7_isOne) := goodIn_app (goodIn_of _ (by decide +kernel)) ggX7_free_X7_isOne
set_option maxRecDepth 20000 in
theorem ggX7_free_X7_in : GoodIn wsX7_free wsX7_in := goodIn_r _ [10] (by decide +kernel) (by decide +kernel)
set_option maxRecDepth 20000 in
theorem gX7_free_X7_in : GoodIn wsX7_free (va_wsS RX7 57 yX7_in wsX7_in) := goodIn_app (goodIn_of _ (by decide +kernel)) ggX7_free_X7_in
set_option maxRecDepth 20000 in
theorem ggX7_free_X7_bad : GoodIn wsX7_free wsX7_bad := goodIn_r _ [14, 15, 16, 17, 6, 18, 19, 20, 63, 64, 65, 66, 67, 68, 69, 70, 71, 72, 73, 74, 75, 76, 77, 78, 79, 80] (by decide +kernel) (by decide +kernel)
set_option maxRecDepth 20000 in
theorem gX7_free_X7_bad : GoodIn wsX7_free (wsV RX7 111 RX7 yX7_bad wsX7_bad) := goodIn_app (goodIn_of _ (by decide +kernel)) ggX7_free_X7_bad
set_option maxRecDepth 20000 in
theorem ggX7_free_X7_isOwn : GoodIn wsX7_free wsX7_isOwn := goodIn_r _ [24, 2, 25, 26, 27, 6, 28, 29, 30, 31, 32, 33, 34, 35, 36, 37, 38, 39, 40, 41, 42, 43, 44, 45, 46, 47, 48, 49, 50, 51, 52, 53, 54, 55, 56, 57, 58, 59, 60, 61, 62, 63, 64, 65, 66, 67, 68, 69, 70, 71, 72, 73, 74, 75, 76, 77, 78, 79, 80] (by decide +kernel) (by decide +kernel)
set_option maxRecDepth 20000 in
theorem gX7_free_X7_isOwn : GoodIn wsX7_free (wsV RX7 222 RX7 yX7_isOwn wsX7_isOwn) := goodIn_app (goodIn_of _ (by decide +kernel)) ggX7_free_X7_isOwn
theorem dX7_free_0 : decode cX7_free 0 = .ok (.aload_n 0, 1) := by decide +kernel
theorem dX7_free_1 : decode cX7_free 1 = .ok (.iload_n 1, 1) := by decide +kernel
theorem dX7_free_2 : decode cX7_free 2 = .ok (.invokevirtual 118, 3) := by decide +kernel
theorem dX7_free_5 : decode cX7_free 5 = .ok (.ifCond .eq 15, 3) := by decide +kernel
theorem dX7_free_8 : decode cX7_free 8 = .ok (.iload_n 2, 1) := by decide +kernel
theorem dX7_free_9 : decode cX7_free 9 = .ok (.i2l, 1) := by decide +kernel
theorem dX7_free_10 : decode cX7_free 10 = .ok (.lconst 0, 1) := by decide +kernel
theorem dX7_free_11 : decode cX7_free 11 = .ok (.ldc2_w 124, 3) := by decide +kernel
theorem dX7_free_14 : decode cX7_free 14 = .ok (.invokestatic 57, 3) := by decide +kernel
theorem dX7_free_17 : decode cX7_free 17 = .ok (.ifCond .ne 8, 3) := by decide +kernel
theorem dX7_free_20 : decode cX7_free 20 = .ok (.aload_n 0, 1) := by decide +kernel
theorem dX7_free_21 : decode cX7_free 21 = .ok (.invokevirtual 111, 3) := by decide +kernel
theorem dX7_free_24 : decode cX7_free 24 = .ok (.ireturn, 1) := by decide +kernel
theorem dX7_free_25 : decode cX7_free 25 = .ok (.iconst (-1), 1) := by decide +kernel
theorem dX7_free_26 : decode cX7_free 26 = .ok (.istore_n 3, 1) := by decide +kernel
theorem dX7_free_27 : decode cX7_free 27 = .ok (.iconst 0, 1) := by decide +kernel
theorem dX7_free_28 : decode cX7_free 28 = .ok (.istore 4, 2) := by decide +kernel
theorem dX7_free_30 : decode cX7_free 30 = .ok (.iload 4, 2) := by decide +kernel
theorem dX7_free_32 : decode cX7_free 32 = .ok (.aload_n 0, 1) := by decide +kernel
theorem dX7_free_33 : decode cX7_free 33 = .ok (.getfield 7, 3) := by decide +kernel
theorem dX7_free_36 : decode cX7_free 36 = .ok (.bipush 16, 2) := by decide +kernel
theorem dX7_free_38 : decode cX7_free 38 = .ok (.iaload, 1) := by decide +kernel
theorem dX7_free_39 : decode cX7_free 39 = .ok (.if_icmp .ge 84, 3) := by decide +kernel
theorem dX7_free_42 : decode cX7_free 42 = .ok (.aload_n 0, 1) := by decide +kernel
theorem dX7_free_43 : decode cX7_free 43 = .ok (.getfield 7, 3) := by decide +kernel
theorem dX7_free_46 : decode cX7_free 46 = .ok (.bipush 46, 2) := by decide +kernel
theorem dX7_free_48 : decode cX7_free 48 = .ok (.iconst 2, 1) := by decide +kernel
theorem dX7_free_49 : decode cX7_free 49 = .ok (.iload 4, 2) := by decide +kernel
theorem dX7_free_51 : decode cX7_free 51 = .ok (.imul, 1) := by decide +kernel
theorem dX7_free_52 : decode cX7_free 52 = .ok (.iadd, 1) := by decide +kernel
theorem dX7_free_53 : decode cX7_free 53 = .ok (.iaload, 1) := by decide +kernel
theorem dX7_free_54 : decode cX7_free 54 = .ok (.istore 5, 2) := by decide +kernel
theorem dX7_free_56 : decode cX7_free 56 = .ok (.iload_n 2, 1) := by decide +kernel
theorem dX7_free_57 : decode cX7_free 57 = .ok (.aload_n 0, 1) := by decide +kernel
theorem dX7_free_58 : decode cX7_free 58 = .ok (.getfield 7, 3) := by decide +kernel
theorem dX7_free_61 : decode cX7_free 61 = .ok (.bipush 46, 2) := by decide +kernel
theorem dX7_free_63 : decode cX7_free 63 = .ok (.iconst 2, 1) := by decide +kernel
theorem dX7_free_64 : decode cX7_free 64 = .ok (.iload 4, 2) := by decide +kernel
theorem dX7_free_66 : decode cX7_free 66 = .ok (.imul, 1) := by decide +kernel
theorem dX7_free_67 : decode cX7_free 67 = .ok (.iadd, 1) := by decide +kernel
theorem dX7_free_68 : decode cX7_free 68 = .ok (.iconst 1, 1) := by decide +kernel
theorem dX7_free_69 : decode cX7_free 69 = .ok (.iadd, 1) := by decide +kernel
theorem dX7_free_70 : decode cX7_free 70 = .ok (.iaload, 1) := by decide +kernel
theorem dX7_free_71 : decode cX7_free 71 = .ok (.bipush 9, 2) := by decide +kernel
theorem dX7_free_73 : decode cX7_free 73 = .ok (.iadd, 1) := by decide +kernel
theorem dX7_free_74 : decode cX7_free 74 = .ok (.if_icmp .lt 17, 3) := by decide +kernel
theorem dX7_free_77 : decode cX7_free 77 = .ok (.aload_n 0, 1) := by decide +kernel
theorem dX7_free_78 : decode cX7_free 78 = .ok (.iload_n 1, 1) := by decide +kernel
theorem dX7_free_79 : decode cX7_free 79 = .ok (.iload 5, 2) := by decide +kernel
theorem dX7_free_81 : decode cX7_free 81 = .ok (.invokevirtual 222, 3) := by decide +kernel
theorem dX7_free_84 : decode cX7_free 84 = .ok (.ifCond .eq 7, 3) := by decide +kernel
theorem dX7_free_87 : decode cX7_free 87 = .ok (.iconst 1, 1) := by decide +kernel
theorem dX7_free_88 : decode cX7_free 88 = .ok (.goto 4, 3) := by decide +kernel
theorem dX7_free_91 : decode cX7_free 91 = .ok (.iconst 0, 1) := by decide +kernel
theorem dX7_free_92 : decode cX7_free 92 = .ok (.istore 6, 2) := by decide +kernel
theorem dX7_free_94 : decode cX7_free 94 = .ok (.iload 6, 2) := by decide +kernel
theorem dX7_free_96 : decode cX7_free 96 = .ok (.ifCond .eq 19, 3) := by decide +kernel
theorem dX7_free_99 : decode cX7_free 99 = .ok (.iload_n 3, 1) := by decide +kernel
theorem dX7_free_100 : decode cX7_free 100 = .ok (.iconst (-1), 1) := by decide +kernel
theorem dX7_free_101 : decode cX7_free 101 = .ok (.if_icmp .eq 9, 3) := by decide +kernel
theorem dX7_free_104 : decode cX7_free 104 = .ok (.iload 5, 2) := by decide +kernel
theorem dX7_free_106 : decode cX7_free 106 = .ok (.iload_n 3, 1) := by decide +kernel
theorem dX7_free_107 : decode cX7_free 107 = .ok (.if_icmp .ge 8, 3) := by decide +kernel
theorem dX7_free_110 : decode cX7_free 110 = .ok (.iload 5, 2) := by decide +kernel
theorem dX7_free_112 : decode cX7_free 112 = .ok (.goto 4, 3) := by decide +kernel
theorem dX7_free_115 : decode cX7_free 115 = .ok (.iload_n 3, 1) := by decide +kernel
theorem dX7_free_116 : decode cX7_free 116 = .ok (.istore_n 3, 1) := by decide +kernel
theorem dX7_free_117 : decode cX7_free 117 = .ok (.iinc 4 1, 3) := by decide +kernel
theorem dX7_free_120 : decode cX7_free 120 = .ok (.goto (-90), 3) := by decide +kernel
theorem dX7_free_123 : decode cX7_free 123 = .ok (.iload_n 3, 1) := by decide +kernel
theorem dX7_free_124 : decode cX7_free 124 = .ok (.ireturn, 1) := by decide +kernel
set_option maxRecDepth 20000 in
theorem ggX7_image_X7_in : GoodIn wsX7_image wsX7_in := goodIn_r _ [7] (by decide +kernel) (by decide +kernel)
set_option maxRecDepth 20000 in
theorem gX7_image_X7_in : GoodIn wsX7_image (va_wsS RX7 57 yX7_in wsX7_in) := goodIn_app (goodIn_of _ (by decide +kernel)) ggX7_image_X7_in
set_option maxRecDepth 20000 in
theorem ggX7_image_X7_bad : GoodIn wsX7_image wsX7_bad := goodIn_r _ [11, 12, 13, 14, 6, 15, 16, 17, 18, 19, 20, 21, 22, 23, 24, 25, 26, 27, 28, 29, 30, 31, 32, 33, 34, 35] (by decide +kernel) (by decide +kernel)
set_option maxRecDepth 20000 in
theorem gX7_image_X7_bad : GoodIn wsX7_image (wsV RX7 111 RX7 yX7_bad wsX7_bad) := goodIn_app (goodIn_of _ (by decide +kernel)) ggX7_image_X7_bad
theorem dX7_image_0 : decode cX7_image 0 = .ok (.iload_n 1, 1) := by decide +kernel
theorem dX7_image_1 : decode cX7_image 1 = .ok (.i2l, 1) := by decide +kernel
theorem dX7_image_2 : decode cX7_image 2 = .ok (.lconst 0, 1) := by decide +kernel
theorem dX7_image_3 : decode cX7_image 3 = .ok (.lconst 1, 1) := by decide +kernel
theorem dX7_image_4 : decode cX7_image 4 = .ok (.invokestatic 57, 3) := by decide +kernel
theorem dX7_image_7 : decode cX7_image 7 = .ok (.ifCond .ne 8, 3) := by decide +kernel
theorem dX7_image_10 : decode cX7_image 10 = .ok (.aload_n 0, 1) := by decide +kernel
theorem dX7_image_11 : decode cX7_image 11 = .ok (.invokevirtual 111, 3) := by decide +kernel
theorem dX7_image_14 : decode cX7_image 14 = .ok (.ireturn, 1) := by decide +kernel
theorem dX7_image_15 : decode cX7_image 15 = .ok (.iconst 0, 1) := by decide +kernel
theorem dX7_image_16 : decode cX7_image 16 = .ok (.istore_n 2, 1) := by decide +kernel
theorem dX7_image_17 : decode cX7_image 17 = .ok (.iload_n 2, 1) := by decide +kernel
theorem dX7_image_18 : decode cX7_image 18 = .ok (.bipush 66, 2) := by decide +kernel
theorem dX7_image_20 : decode cX7_image 20 = .ok (.if_icmp .ge 26, 3) := by decide +kernel
theorem dX7_image_23 : decode cX7_image 23 = .ok (.aload_n 0, 1) := by decide +kernel
theorem dX7_image_24 : decode cX7_image 24 = .ok (.getfield 13, 3) := by decide +kernel
theorem dX7_image_27 : decode cX7_image 27 = .ok (.bipush 66, 2) := by decide +kernel
theorem dX7_image_29 : decode cX7_image 29 = .ok (.iload_n 1, 1) := by decide +kernel
theorem dX7_image_30 : decode cX7_image 30 = .ok (.imul, 1) := by decide +kernel
theorem dX7_image_31 : decode cX7_image 31 = .ok (.iload_n 2, 1) := by decide +kernel
theorem dX7_image_32 : decode cX7_image 32 = .ok (.iadd, 1) := by decide +kernel
theorem dX7_image_33 : decode cX7_image 33 = .ok (.aload_n 0, 1) := by decide +kernel
theorem dX7_image_34 : decode cX7_image 34 = .ok (.getfield 7, 3) := by decide +kernel
theorem dX7_image_37 : decode cX7_image 37 = .ok (.iload_n 2, 1) := by decide +kernel
theorem dX7_image_38 : decode cX7_image 38 = .ok (.iaload, 1) := by decide +kernel
theorem dX7_image_39 : decode cX7_image 39 = .ok (.iastore, 1) := by decide +kernel
theorem dX7_image_40 : decode cX7_image 40 = .ok (.iinc 2 1, 3) := by decide +kernel
theorem dX7_image_43 : decode cX7_image 43 = .ok (.goto (-26), 3) := by decide +kernel
theorem dX7_image_46 : decode cX7_image 46 = .ok (.aload_n 0, 1) := by decide +kernel
theorem dX7_image_47 : decode cX7_image 47 = .ok (.getfield 16, 3) := by decide +kernel
theorem dX7_image_50 : decode cX7_image 50 = .ok (.iload_n 1, 1) := by decide +kernel
theorem dX7_image_51 : decode cX7_image 51 = .ok (.iconst 1, 1) := by decide +kernel
theorem dX7_image_52 : decode cX7_image 52 = .ok (.bastore, 1) := by decide +kernel
theorem dX7_image_53 : decode cX7_image 53 = .ok (.iconst 1, 1) := by decide +kernel
theorem dX7_image_54 : decode cX7_image 54 = .ok (.ireturn, 1) := by decide +kernel
set_option maxRecDepth 20000 in
theorem ggX7_from_X7_in : GoodIn wsX7_from wsX7_in := goodIn_r _ [7] (by decide +kernel) (by decide +kernel)
set_option maxRecDepth 20000 in
theorem gX7_from_X7_in : GoodIn wsX7_from (va_wsS RX7 57 yX7_in wsX7_in) := goodIn_app (goodIn_of _ (by decide +kernel)) ggX7_from_X7_in
set_option maxRecDepth 20000 in
theorem ggX7_from_X7_bad : GoodIn wsX7_from wsX7_bad := goodIn_r _ [11, 12, 13, 14, 6, 15, 16, 17, 22, 23, 24, 25, 26, 27, 28, 29, 30, 31, 32, 33, 34, 35, 36, 37, 38, 39] (by decide +kernel) (by decide +kernel)
set_option maxRecDepth 20000 in
theorem gX7_from_X7_bad : GoodIn wsX7_from (wsV RX7 111 RX7 yX7_bad wsX7_bad) := goodIn_app (goodIn_of _ (by decide +kernel)) ggX7_from_X7_bad
set_option maxRecDepth 20000 in
theorem ggX7_from_X7_no : GoodIn wsX7_from wsX7_no := goodIn_r _ [21, 12, 13, 14, 6, 15, 16, 17, 22, 23, 24, 25, 26, 27, 28, 29, 30, 31, 32, 33, 34, 35, 36, 37, 38, 39] (by decide +kernel) (by decide +kernel)
set_option maxRecDepth 20000 in
theorem gX7_from_X7_no : GoodIn wsX7_from (wsV RX7 198 RX7 yX7_no wsX7_no) := goodIn_app (goodIn_of _ (by decide +kernel)) ggX7_from_X7_no
theorem dX7_from_0 : decode cX7_from 0 = .ok (.iload_n 1, 1) := by decide +kernel
theorem dX7_from_1 : decode cX7_from 1 = .ok (.i2l, 1) := by decide +kernel
theorem dX7_from_2 : decode cX7_from 2 = .ok (.lconst 0, 1) := by decide +kernel
theorem dX7_from_3 : decode cX7_from 3 = .ok (.lconst 1, 1) := by decide +kernel
theorem dX7_from_4 : decode cX7_from 4 = .ok (.invokestatic 57, 3) := by decide +kernel
theorem dX7_from_7 : decode cX7_from 7 = .ok (.ifCond .ne 8, 3) := by decide +kernel
theorem dX7_from_10 : decode cX7_from 10 = .ok (.aload_n 0, 1) := by decide +kernel
theorem dX7_from_11 : decode cX7_from 11 = .ok (.invokevirtual 111, 3) := by decide +kernel
theorem dX7_from_14 : decode cX7_from 14 = .ok (.ireturn, 1) := by decide +kernel
theorem dX7_from_15 : decode cX7_from 15 = .ok (.aload_n 0, 1) := by decide +kernel
theorem dX7_from_16 : decode cX7_from 16 = .ok (.getfield 16, 3) := by decide +kernel
theorem dX7_from_19 : decode cX7_from 19 = .ok (.iload_n 1, 1) := by decide +kernel
theorem dX7_from_20 : decode cX7_from 20 = .ok (.baload, 1) := by decide +kernel
theorem dX7_from_21 : decode cX7_from 21 = .ok (.ifCond .ne 8, 3) := by decide +kernel
theorem dX7_from_24 : decode cX7_from 24 = .ok (.aload_n 0, 1) := by decide +kernel
theorem dX7_from_25 : decode cX7_from 25 = .ok (.invokevirtual 198, 3) := by decide +kernel
theorem dX7_from_28 : decode cX7_from 28 = .ok (.ireturn, 1) := by decide +kernel
theorem dX7_from_29 : decode cX7_from 29 = .ok (.iconst 0, 1) := by decide +kernel
theorem dX7_from_30 : decode cX7_from 30 = .ok (.istore_n 2, 1) := by decide +kernel
theorem dX7_from_31 : decode cX7_from 31 = .ok (.iload_n 2, 1) := by decide +kernel
theorem dX7_from_32 : decode cX7_from 32 = .ok (.bipush 66, 2) := by decide +kernel
theorem dX7_from_34 : decode cX7_from 34 = .ok (.if_icmp .ge 26, 3) := by decide +kernel
theorem dX7_from_37 : decode cX7_from 37 = .ok (.aload_n 0, 1) := by decide +kernel
theorem dX7_from_38 : decode cX7_from 38 = .ok (.getfield 7, 3) := by decide +kernel
theorem dX7_from_41 : decode cX7_from 41 = .ok (.iload_n 2, 1) := by decide +kernel
theorem dX7_from_42 : decode cX7_from 42 = .ok (.aload_n 0, 1) := by decide +kernel
theorem dX7_from_43 : decode cX7_from 43 = .ok (.getfield 13, 3) := by decide +kernel
theorem dX7_from_46 : decode cX7_from 46 = .ok (.bipush 66, 2) := by decide +kernel
theorem dX7_from_48 : decode cX7_from 48 = .ok (.iload_n 1, 1) := by decide +kernel
theorem dX7_from_49 : decode cX7_from 49 = .ok (.imul, 1) := by decide +kernel
theorem dX7_from_50 : decode cX7_from 50 = .ok (.iload_n 2, 1) := by decide +kernel
theorem dX7_from_51 : decode cX7_from 51 = .ok (.iadd, 1) := by decide +kernel
theorem dX7_from_52 : decode cX7_from 52 = .ok (.iaload, 1) := by decide +kernel
theorem dX7_from_53 : decode cX7_from 53 = .ok (.iastore, 1) := by decide +kernel
theorem dX7_from_54 : decode cX7_from 54 = .ok (.iinc 2 1, 3) := by decide +kernel
theorem dX7_from_57 : decode cX7_from 57 = .ok (.goto (-26), 3) := by decide +kernel
theorem dX7_from_60 : decode cX7_from 60 = .ok (.iconst 1, 1) := by decide +kernel
theorem dX7_from_61 : decode cX7_from 61 = .ok (.ireturn, 1) := by decide +kernel
set_option maxRecDepth 20000 in
theorem ggX7_status_X7_in : GoodIn wsX7_status wsX7_in := goodIn_r _ [6] (by decide +kernel) (by decide +kernel)
set_option maxRecDepth 20000 in
theorem gX7_status_X7_in : GoodIn wsX7_status (va_wsS RX7 57 yX7_in wsX7_in) := goodIn_app (goodIn_of _ (by decide +kernel)) ggX7_status_X7_in
set_option maxRecDepth 20000 in
theorem ggX7_status_X7_refuses : GoodIn wsX7_status wsX7_refuses := goodIn_r _ [10, 2, 11, 12, 13, 14, 15, 16, 17, 18, 19, 20, 21, 22, 23, 24, 25, 26, 27, 28, 29] (by decide +kernel) (by decide +kernel)
set_option maxRecDepth 20000 in
theorem gX7_status_X7_refuses : GoodIn wsX7_status (wsV RX7 51 RX7 yX7_refuses wsX7_refuses) := goodIn_app (goodIn_of _ (by decide +kernel)) ggX7_status_X7_refuses
theorem dX7_status_0 : decode cX7_status 0 = .ok (.iload_n 1, 1) := by decide +kernel
theorem dX7_status_1 : decode cX7_status 1 = .ok (.i2l, 1) := by decide +kernel
theorem dX7_status_2 : decode cX7_status 2 = .ok (.lconst 0, 1) := by decide +kernel
theorem dX7_status_3 : decode cX7_status 3 = .ok (.ldc2_w 229, 3) := by decide +kernel
theorem dX7_status_6 : decode cX7_status 6 = .ok (.invokestatic 57, 3) := by decide +kernel
theorem dX7_status_9 : decode cX7_status 9 = .ok (.ifCond .eq 12, 3) := by decide +kernel
theorem dX7_status_12 : decode cX7_status 12 = .ok (.aload_n 0, 1) := by decide +kernel
theorem dX7_status_13 : decode cX7_status 13 = .ok (.getfield 23, 3) := by decide +kernel
