theorem dX7_scans_127 : decode cX7_scans 127 = .ok (.aload_n 0, 1) := by decide +kernel
theorem dX7_scans_128 : decode cX7_scans 128 = .ok (.getfield 137, 3) := by decide +kernel
theorem dX7_scans_131 : decode cX7_scans 131 = .ok (.aload_n 0, 1) := by decide +kernel
theorem dX7_scans_132 : decode cX7_scans 132 = .ok (.getfield 150, 3) := by decide +kernel
theorem dX7_scans_135 : decode cX7_scans 135 = .ok (.isub, 1) := by decide +kernel
theorem dX7_scans_136 : decode cX7_scans 136 = .ok (.iconst 5, 1) := by decide +kernel
theorem dX7_scans_137 : decode cX7_scans 137 = .ok (.if_icmp .gt 11, 3) := by decide +kernel
theorem dX7_scans_140 : decode cX7_scans 140 = .ok (.lload_n 1, 1) := by decide +kernel
theorem dX7_scans_141 : decode cX7_scans 141 = .ok (.invokestatic 160, 3) := by decide +kernel
theorem dX7_scans_144 : decode cX7_scans 144 = .ok (.iconst (-1), 1) := by decide +kernel
theorem dX7_scans_145 : decode cX7_scans 145 = .ok (.if_icmp .ne 7, 3) := by decide +kernel
theorem dX7_scans_148 : decode cX7_scans 148 = .ok (.iconst 1, 1) := by decide +kernel
theorem dX7_scans_149 : decode cX7_scans 149 = .ok (.goto 9, 3) := by decide +kernel
theorem dX7_scans_152 : decode cX7_scans 152 = .ok (.iconst 4, 1) := by decide +kernel
theorem dX7_scans_153 : decode cX7_scans 153 = .ok (.lload_n 1, 1) := by decide +kernel
theorem dX7_scans_154 : decode cX7_scans 154 = .ok (.invokestatic 160, 3) := by decide +kernel
theorem dX7_scans_157 : decode cX7_scans 157 = .ok (.iadd, 1) := by decide +kernel
theorem dX7_scans_158 : decode cX7_scans 158 = .ok (.putfield 153, 3) := by decide +kernel
theorem dX7_scans_161 : decode cX7_scans 161 = .ok (.return_, 1) := by decide +kernel
theorem dX7_scans_162 : decode cX7_scans 162 = .ok (.aload_n 0, 1) := by decide +kernel
theorem dX7_scans_163 : decode cX7_scans 163 = .ok (.bipush 48, 2) := by decide +kernel
theorem dX7_scans_165 : decode cX7_scans 165 = .ok (.bipush 57, 2) := by decide +kernel
theorem dX7_scans_167 : decode cX7_scans 167 = .ok (.invokevirtual 146, 3) := by decide +kernel
theorem dX7_scans_170 : decode cX7_scans 170 = .ok (.ifCond .eq 99, 3) := by decide +kernel
theorem dX7_scans_173 : decode cX7_scans 173 = .ok (.aload_n 0, 1) := by decide +kernel
theorem dX7_scans_174 : decode cX7_scans 174 = .ok (.iconst 0, 1) := by decide +kernel
theorem dX7_scans_175 : decode cX7_scans 175 = .ok (.putfield 164, 3) := by decide +kernel
theorem dX7_scans_178 : decode cX7_scans 178 = .ok (.aload_n 0, 1) := by decide +kernel
theorem dX7_scans_179 : decode cX7_scans 179 = .ok (.bipush 48, 2) := by decide +kernel
theorem dX7_scans_181 : decode cX7_scans 181 = .ok (.bipush 57, 2) := by decide +kernel
theorem dX7_scans_183 : decode cX7_scans 183 = .ok (.invokevirtual 146, 3) := by decide +kernel
theorem dX7_scans_186 : decode cX7_scans 186 = .ok (.ifCond .eq 60, 3) := by decide +kernel
theorem dX7_scans_189 : decode cX7_scans 189 = .ok (.aload_n 0, 1) := by decide +kernel
theorem dX7_scans_190 : decode cX7_scans 190 = .ok (.aload_n 0, 1) := by decide +kernel
theorem dX7_scans_191 : decode cX7_scans 191 = .ok (.getfield 137, 3) := by decide +kernel
theorem dX7_scans_194 : decode cX7_scans 194 = .ok (.aload_n 0, 1) := by decide +kernel
theorem dX7_scans_195 : decode cX7_scans 195 = .ok (.getfield 150, 3) := by decide +kernel
theorem dX7_scans_198 : decode cX7_scans 198 = .ok (.isub, 1) := by decide +kernel
theorem dX7_scans_199 : decode cX7_scans 199 = .ok (.iconst 4, 1) := by decide +kernel
theorem dX7_scans_200 : decode cX7_scans 200 = .ok (.if_icmp .ge 26, 3) := by decide +kernel
theorem dX7_scans_203 : decode cX7_scans 203 = .ok (.bipush 10, 2) := by decide +kernel
theorem dX7_scans_205 : decode cX7_scans 205 = .ok (.aload_n 0, 1) := by decide +kernel
theorem dX7_scans_206 : decode cX7_scans 206 = .ok (.getfield 164, 3) := by decide +kernel
theorem dX7_scans_209 : decode cX7_scans 209 = .ok (.imul, 1) := by decide +kernel
theorem dX7_scans_210 : decode cX7_scans 210 = .ok (.aload_n 0, 1) := by decide +kernel
theorem dX7_scans_211 : decode cX7_scans 211 = .ok (.getfield 26, 3) := by decide +kernel
theorem dX7_scans_214 : decode cX7_scans 214 = .ok (.aload_n 0, 1) := by decide +kernel
theorem dX7_scans_215 : decode cX7_scans 215 = .ok (.getfield 137, 3) := by decide +kernel
theorem dX7_scans_218 : decode cX7_scans 218 = .ok (.iaload, 1) := by decide +kernel
theorem dX7_scans_219 : decode cX7_scans 219 = .ok (.iadd, 1) := by decide +kernel
theorem dX7_scans_220 : decode cX7_scans 220 = .ok (.bipush 48, 2) := by decide +kernel
theorem dX7_scans_222 : decode cX7_scans 222 = .ok (.isub, 1) := by decide +kernel
theorem dX7_scans_223 : decode cX7_scans 223 = .ok (.goto 7, 3) := by decide +kernel
theorem dX7_scans_226 : decode cX7_scans 226 = .ok (.aload_n 0, 1) := by decide +kernel
theorem dX7_scans_227 : decode cX7_scans 227 = .ok (.getfield 164, 3) := by decide +kernel
theorem dX7_scans_230 : decode cX7_scans 230 = .ok (.putfield 164, 3) := by decide +kernel
theorem dX7_scans_233 : decode cX7_scans 233 = .ok (.aload_n 0, 1) := by decide +kernel
theorem dX7_scans_234 : decode cX7_scans 234 = .ok (.dup, 1) := by decide +kernel
theorem dX7_scans_235 : decode cX7_scans 235 = .ok (.getfield 137, 3) := by decide +kernel
theorem dX7_scans_238 : decode cX7_scans 238 = .ok (.iconst 1, 1) := by decide +kernel
theorem dX7_scans_239 : decode cX7_scans 239 = .ok (.iadd, 1) := by decide +kernel
theorem dX7_scans_240 : decode cX7_scans 240 = .ok (.putfield 137, 3) := by decide +kernel
theorem dX7_scans_243 : decode cX7_scans 243 = .ok (.goto (-65), 3) := by decide +kernel
theorem dX7_scans_246 : decode cX7_scans 246 = .ok (.aload_n 0, 1) := by decide +kernel
theorem dX7_scans_247 : decode cX7_scans 247 = .ok (.aload_n 0, 1) := by decide +kernel
theorem dX7_scans_248 : decode cX7_scans 248 = .ok (.getfield 137, 3) := by decide +kernel
theorem dX7_scans_251 : decode cX7_scans 251 = .ok (.aload_n 0, 1) := by decide +kernel
theorem dX7_scans_252 : decode cX7_scans 252 = .ok (.getfield 150, 3) := by decide +kernel
theorem dX7_scans_255 : decode cX7_scans 255 = .ok (.isub, 1) := by decide +kernel
theorem dX7_scans_256 : decode cX7_scans 256 = .ok (.iconst 4, 1) := by decide +kernel
theorem dX7_scans_257 : decode cX7_scans 257 = .ok (.if_icmp .le 7, 3) := by decide +kernel
theorem dX7_scans_260 : decode cX7_scans 260 = .ok (.iconst 1, 1) := by decide +kernel
theorem dX7_scans_261 : decode cX7_scans 261 = .ok (.goto 4, 3) := by decide +kernel
theorem dX7_scans_264 : decode cX7_scans 264 = .ok (.iconst 2, 1) := by decide +kernel
theorem dX7_scans_265 : decode cX7_scans 265 = .ok (.putfield 153, 3) := by decide +kernel
theorem dX7_scans_268 : decode cX7_scans 268 = .ok (.return_, 1) := by decide +kernel
theorem dX7_scans_269 : decode cX7_scans 269 = .ok (.aload_n 0, 1) := by decide +kernel
theorem dX7_scans_270 : decode cX7_scans 270 = .ok (.aload_n 0, 1) := by decide +kernel
theorem dX7_scans_271 : decode cX7_scans 271 = .ok (.bipush 59, 2) := by decide +kernel
theorem dX7_scans_273 : decode cX7_scans 273 = .ok (.bipush 59, 2) := by decide +kernel
theorem dX7_scans_275 : decode cX7_scans 275 = .ok (.invokevirtual 146, 3) := by decide +kernel
theorem dX7_scans_278 : decode cX7_scans 278 = .ok (.ifCond .eq 7, 3) := by decide +kernel
theorem dX7_scans_281 : decode cX7_scans 281 = .ok (.iconst 3, 1) := by decide +kernel
theorem dX7_scans_282 : decode cX7_scans 282 = .ok (.goto 4, 3) := by decide +kernel
theorem dX7_scans_285 : decode cX7_scans 285 = .ok (.iconst 1, 1) := by decide +kernel
theorem dX7_scans_286 : decode cX7_scans 286 = .ok (.putfield 153, 3) := by decide +kernel
theorem dX7_scans_289 : decode cX7_scans 289 = .ok (.aload_n 0, 1) := by decide +kernel
theorem dX7_scans_290 : decode cX7_scans 290 = .ok (.dup, 1) := by decide +kernel
theorem dX7_scans_291 : decode cX7_scans 291 = .ok (.getfield 137, 3) := by decide +kernel
theorem dX7_scans_294 : decode cX7_scans 294 = .ok (.iconst 1, 1) := by decide +kernel
theorem dX7_scans_295 : decode cX7_scans 295 = .ok (.iadd, 1) := by decide +kernel
theorem dX7_scans_296 : decode cX7_scans 296 = .ok (.putfield 137, 3) := by decide +kernel
theorem dX7_scans_299 : decode cX7_scans 299 = .ok (.return_, 1) := by decide +kernel
set_option maxRecDepth 20000 in
theorem ggX7_reads_X7_scans : GoodIn wsX7_reads wsX7_scans := goodIn_r _ [10, 1, 11, 12, 3, 13, 14, 15, 5, 16, 17, 18, 9, 19, 20, 21, 22, 23, 24, 25, 26, 27, 28, 29, 30, 31, 32, 33, 34, 35, 36, 37, 38, 39, 40, 41, 42, 43, 44, 45, 46] (by decide +kernel) (by decide +kernel)
set_option maxRecDepth 20000 in
theorem gX7_reads_X7_scans : GoodIn wsX7_reads (wsV RX7 170 RX7 yX7_scans wsX7_scans) := goodIn_app (goodIn_of _ (by decide +kernel)) ggX7_reads_X7_scans
theorem dX7_reads_0 : decode cX7_reads 0 = .ok (.aload_n 0, 1) := by decide +kernel
theorem dX7_reads_1 : decode cX7_reads 1 = .ok (.iconst 0, 1) := by decide +kernel
theorem dX7_reads_2 : decode cX7_reads 2 = .ok (.putfield 137, 3) := by decide +kernel
theorem dX7_reads_5 : decode cX7_reads 5 = .ok (.aload_n 0, 1) := by decide +kernel
theorem dX7_reads_6 : decode cX7_reads 6 = .ok (.iconst 0, 1) := by decide +kernel
theorem dX7_reads_7 : decode cX7_reads 7 = .ok (.putfield 167, 3) := by decide +kernel
theorem dX7_reads_10 : decode cX7_reads 10 = .ok (.aload_n 0, 1) := by decide +kernel
theorem dX7_reads_11 : decode cX7_reads 11 = .ok (.invokevirtual 170, 3) := by decide +kernel
theorem dX7_reads_14 : decode cX7_reads 14 = .ok (.aload_n 0, 1) := by decide +kernel
theorem dX7_reads_15 : decode cX7_reads 15 = .ok (.getfield 153, 3) := by decide +kernel
theorem dX7_reads_18 : decode cX7_reads 18 = .ok (.ifCond .eq 122, 3) := by decide +kernel
theorem dX7_reads_21 : decode cX7_reads 21 = .ok (.aload_n 0, 1) := by decide +kernel
theorem dX7_reads_22 : decode cX7_reads 22 = .ok (.getfield 153, 3) := by decide +kernel
theorem dX7_reads_25 : decode cX7_reads 25 = .ok (.iconst 4, 1) := by decide +kernel
theorem dX7_reads_26 : decode cX7_reads 26 = .ok (.isub, 1) := by decide +kernel
theorem dX7_reads_27 : decode cX7_reads 27 = .ok (.istore_n 1, 1) := by decide +kernel
theorem dX7_reads_28 : decode cX7_reads 28 = .ok (.iload_n 1, 1) := by decide +kernel
theorem dX7_reads_29 : decode cX7_reads 29 = .ok (.ifCond .ge 5, 3) := by decide +kernel
theorem dX7_reads_32 : decode cX7_reads 32 = .ok (.iconst 0, 1) := by decide +kernel
theorem dX7_reads_33 : decode cX7_reads 33 = .ok (.ireturn, 1) := by decide +kernel
theorem dX7_reads_34 : decode cX7_reads 34 = .ok (.aload_n 0, 1) := by decide +kernel
theorem dX7_reads_35 : decode cX7_reads 35 = .ok (.getfield 29, 3) := by decide +kernel
theorem dX7_reads_38 : decode cX7_reads 38 = .ok (.iconst 5, 1) := by decide +kernel
theorem dX7_reads_39 : decode cX7_reads 39 = .ok (.aload_n 0, 1) := by decide +kernel
theorem dX7_reads_40 : decode cX7_reads 40 = .ok (.getfield 167, 3) := by decide +kernel
theorem dX7_reads_43 : decode cX7_reads 43 = .ok (.imul, 1) := by decide +kernel
theorem dX7_reads_44 : decode cX7_reads 44 = .ok (.iload_n 1, 1) := by decide +kernel
theorem dX7_reads_45 : decode cX7_reads 45 = .ok (.iastore, 1) := by decide +kernel
theorem dX7_reads_46 : decode cX7_reads 46 = .ok (.aload_n 0, 1) := by decide +kernel
theorem dX7_reads_47 : decode cX7_reads 47 = .ok (.invokevirtual 170, 3) := by decide +kernel
theorem dX7_reads_50 : decode cX7_reads 50 = .ok (.iconst 0, 1) := by decide +kernel
theorem dX7_reads_51 : decode cX7_reads 51 = .ok (.istore_n 2, 1) := by decide +kernel
theorem dX7_reads_52 : decode cX7_reads 52 = .ok (.iload_n 2, 1) := by decide +kernel
theorem dX7_reads_53 : decode cX7_reads 53 = .ok (.iload_n 1, 1) := by decide +kernel
theorem dX7_reads_54 : decode cX7_reads 54 = .ok (.ifCond .ne 7, 3) := by decide +kernel
theorem dX7_reads_57 : decode cX7_reads 57 = .ok (.iconst 3, 1) := by decide +kernel
theorem dX7_reads_58 : decode cX7_reads 58 = .ok (.goto 13, 3) := by decide +kernel
theorem dX7_reads_61 : decode cX7_reads 61 = .ok (.iload_n 1, 1) := by decide +kernel
theorem dX7_reads_62 : decode cX7_reads 62 = .ok (.iconst 1, 1) := by decide +kernel
theorem dX7_reads_63 : decode cX7_reads 63 = .ok (.if_icmp .ne 7, 3) := by decide +kernel
theorem dX7_reads_66 : decode cX7_reads 66 = .ok (.iconst 4, 1) := by decide +kernel
theorem dX7_reads_67 : decode cX7_reads 67 = .ok (.goto 4, 3) := by decide +kernel
theorem dX7_reads_70 : decode cX7_reads 70 = .ok (.iconst 2, 1) := by decide +kernel
theorem dX7_reads_71 : decode cX7_reads 71 = .ok (.if_icmp .ge 42, 3) := by decide +kernel
theorem dX7_reads_74 : decode cX7_reads 74 = .ok (.aload_n 0, 1) := by decide +kernel
theorem dX7_reads_75 : decode cX7_reads 75 = .ok (.getfield 153, 3) := by decide +kernel
theorem dX7_reads_78 : decode cX7_reads 78 = .ok (.iconst 2, 1) := by decide +kernel
theorem dX7_reads_79 : decode cX7_reads 79 = .ok (.if_icmp .eq 5, 3) := by decide +kernel
theorem dX7_reads_82 : decode cX7_reads 82 = .ok (.iconst 0, 1) := by decide +kernel
theorem dX7_reads_83 : decode cX7_reads 83 = .ok (.ireturn, 1) := by decide +kernel
theorem dX7_reads_84 : decode cX7_reads 84 = .ok (.aload_n 0, 1) := by decide +kernel
theorem dX7_reads_85 : decode cX7_reads 85 = .ok (.getfield 29, 3) := by decide +kernel
theorem dX7_reads_88 : decode cX7_reads 88 = .ok (.iconst 5, 1) := by decide +kernel
theorem dX7_reads_89 : decode cX7_reads 89 = .ok (.aload_n 0, 1) := by decide +kernel
theorem dX7_reads_90 : decode cX7_reads 90 = .ok (.getfield 167, 3) := by decide +kernel
theorem dX7_reads_93 : decode cX7_reads 93 = .ok (.imul, 1) := by decide +kernel
theorem dX7_reads_94 : decode cX7_reads 94 = .ok (.iconst 1, 1) := by decide +kernel
theorem dX7_reads_95 : decode cX7_reads 95 = .ok (.iadd, 1) := by decide +kernel
theorem dX7_reads_96 : decode cX7_reads 96 = .ok (.iload_n 2, 1) := by decide +kernel
theorem dX7_reads_97 : decode cX7_reads 97 = .ok (.iadd, 1) := by decide +kernel
theorem dX7_reads_98 : decode cX7_reads 98 = .ok (.aload_n 0, 1) := by decide +kernel
theorem dX7_reads_99 : decode cX7_reads 99 = .ok (.getfield 164, 3) := by decide +kernel
theorem dX7_reads_102 : decode cX7_reads 102 = .ok (.iastore, 1) := by decide +kernel
theorem dX7_reads_103 : decode cX7_reads 103 = .ok (.aload_n 0, 1) := by decide +kernel
theorem dX7_reads_104 : decode cX7_reads 104 = .ok (.invokevirtual 170, 3) := by decide +kernel
theorem dX7_reads_107 : decode cX7_reads 107 = .ok (.iinc 2 1, 3) := by decide +kernel
theorem dX7_reads_110 : decode cX7_reads 110 = .ok (.goto (-58), 3) := by decide +kernel
theorem dX7_reads_113 : decode cX7_reads 113 = .ok (.aload_n 0, 1) := by decide +kernel
theorem dX7_reads_114 : decode cX7_reads 114 = .ok (.getfield 153, 3) := by decide +kernel
theorem dX7_reads_117 : decode cX7_reads 117 = .ok (.iconst 3, 1) := by decide +kernel
theorem dX7_reads_118 : decode cX7_reads 118 = .ok (.if_icmp .eq 5, 3) := by decide +kernel
theorem dX7_reads_121 : decode cX7_reads 121 = .ok (.iconst 0, 1) := by decide +kernel
theorem dX7_reads_122 : decode cX7_reads 122 = .ok (.ireturn, 1) := by decide +kernel
theorem dX7_reads_123 : decode cX7_reads 123 = .ok (.aload_n 0, 1) := by decide +kernel
theorem dX7_reads_124 : decode cX7_reads 124 = .ok (.dup, 1) := by decide +kernel
theorem dX7_reads_125 : decode cX7_reads 125 = .ok (.getfield 167, 3) := by decide +kernel
theorem dX7_reads_128 : decode cX7_reads 128 = .ok (.iconst 1, 1) := by decide +kernel
theorem dX7_reads_129 : decode cX7_reads 129 = .ok (.iadd, 1) := by decide +kernel
theorem dX7_reads_130 : decode cX7_reads 130 = .ok (.putfield 167, 3) := by decide +kernel
theorem dX7_reads_133 : decode cX7_reads 133 = .ok (.aload_n 0, 1) := by decide +kernel
theorem dX7_reads_134 : decode cX7_reads 134 = .ok (.invokevirtual 170, 3) := by decide +kernel
theorem dX7_reads_137 : decode cX7_reads 137 = .ok (.goto (-123), 3) := by decide +kernel
theorem dX7_reads_140 : decode cX7_reads 140 = .ok (.iconst 1, 1) := by decide +kernel
theorem dX7_reads_141 : decode cX7_reads 141 = .ok (.ireturn, 1) := by decide +kernel
set_option maxRecDepth 20000 in
theorem ggX7_tellsItem_X7_hears : GoodIn wsX7_tellsItem wsX7_hears := goodIn_r _ [6, 7, 8, 9, 10, 11, 5, 12, 13, 14, 15, 16, 17, 18, 19, 20, 21, 22, 23, 24, 25, 26, 57, 58, 59, 60, 61, 62, 63, 64, 65, 66, 67, 68, 69, 70, 71, 72, 73, 74] (by decide +kernel) (by decide +kernel)
set_option maxRecDepth 20000 in
theorem gX7_tellsItem_X7_hears : GoodIn wsX7_tellsItem (wsV RX7 173 RX7 yX7_hears wsX7_hears) := goodIn_app (goodIn_of _ (by decide +kernel)) ggX7_tellsItem_X7_hears
set_option maxRecDepth 20000 in
theorem ggX7_tellsItem_X7_one : GoodIn wsX7_tellsItem wsX7_one := goodIn_r _ [30, 13, 8, 9, 14, 15, 5, 16, 31, 32, 33, 34, 35, 36, 37, 38, 39, 40, 41, 42, 43, 10, 11, 12, 44, 45, 46, 47, 17, 18, 19, 20, 21, 22, 48, 49, 50, 51, 57, 58, 59, 60, 61, 62, 63, 64, 65, 66, 67, 68, 69, 70, 71, 72, 73, 74] (by decide +kernel) (by decide +kernel)
set_option maxRecDepth 20000 in
theorem gX7_tellsItem_X7_one : GoodIn wsX7_tellsItem (wsV RX7 177 RX7 yX7_one wsX7_one) := goodIn_app (goodIn_of _ (by decide +kernel)) ggX7_tellsItem_X7_one
set_option maxRecDepth 20000 in
theorem ggX7_tellsItem_X7_dead : GoodIn wsX7_tellsItem wsX7_dead := goodIn_r _ [55, 56, 9, 31, 32, 5, 33, 34, 35, 36, 37, 38, 39, 40, 41, 42, 43, 14, 15, 16, 44, 45, 46, 47, 17, 18, 19, 20, 21, 22, 48, 49, 50, 51, 57, 58, 59, 60, 61, 62, 63, 64, 65, 66, 67, 68, 69, 70, 71, 72, 73, 74] (by decide +kernel) (by decide +kernel)
set_option maxRecDepth 20000 in
theorem gX7_tellsItem_X7_dead : GoodIn wsX7_tellsItem (wsV RX7 181 RX7 yX7_dead wsX7_dead) := goodIn_app (goodIn_of _ (by decide +kernel)) ggX7_tellsItem_X7_dead
theorem dX7_tellsItem_0 : decode cX7_tellsItem 0 = .ok (.aload_n 0, 1) := by decide +kernel
theorem dX7_tellsItem_1 : decode cX7_tellsItem 1 = .ok (.getfield 29, 3) := by decide +kernel
theorem dX7_tellsItem_4 : decode cX7_tellsItem 4 = .ok (.iconst 5, 1) := by decide +kernel
theorem dX7_tellsItem_5 : decode cX7_tellsItem 5 = .ok (.iload_n 1, 1) := by decide +kernel
theorem dX7_tellsItem_6 : decode cX7_tellsItem 6 = .ok (.imul, 1) := by decide +kernel
theorem dX7_tellsItem_7 : decode cX7_tellsItem 7 = .ok (.iconst 1, 1) := by decide +kernel
theorem dX7_tellsItem_8 : decode cX7_tellsItem 8 = .ok (.iadd, 1) := by decide +kernel
theorem dX7_tellsItem_9 : decode cX7_tellsItem 9 = .ok (.iaload, 1) := by decide +kernel
theorem dX7_tellsItem_10 : decode cX7_tellsItem 10 = .ok (.istore_n 2, 1) := by decide +kernel
theorem dX7_tellsItem_11 : decode cX7_tellsItem 11 = .ok (.aload_n 0, 1) := by decide +kernel
theorem dX7_tellsItem_12 : decode cX7_tellsItem 12 = .ok (.getfield 29, 3) := by decide +kernel
theorem dX7_tellsItem_15 : decode cX7_tellsItem 15 = .ok (.iconst 5, 1) := by decide +kernel
theorem dX7_tellsItem_16 : decode cX7_tellsItem 16 = .ok (.iload_n 1, 1) := by decide +kernel
theorem dX7_tellsItem_17 : decode cX7_tellsItem 17 = .ok (.imul, 1) := by decide +kernel
theorem dX7_tellsItem_18 : decode cX7_tellsItem 18 = .ok (.iconst 2, 1) := by decide +kernel
theorem dX7_tellsItem_19 : decode cX7_tellsItem 19 = .ok (.iadd, 1) := by decide +kernel
theorem dX7_tellsItem_20 : decode cX7_tellsItem 20 = .ok (.iaload, 1) := by decide +kernel
theorem dX7_tellsItem_21 : decode cX7_tellsItem 21 = .ok (.istore_n 3, 1) := by decide +kernel
theorem dX7_tellsItem_22 : decode cX7_tellsItem 22 = .ok (.aload_n 0, 1) := by decide +kernel
theorem dX7_tellsItem_23 : decode cX7_tellsItem 23 = .ok (.getfield 29, 3) := by decide +kernel
theorem dX7_tellsItem_26 : decode cX7_tellsItem 26 = .ok (.iconst 5, 1) := by decide +kernel
theorem dX7_tellsItem_27 : decode cX7_tellsItem 27 = .ok (.iload_n 1, 1) := by decide +kernel
theorem dX7_tellsItem_28 : decode cX7_tellsItem 28 = .ok (.imul, 1) := by decide +kernel
theorem dX7_tellsItem_29 : decode cX7_tellsItem 29 = .ok (.iconst 3, 1) := by decide +kernel
theorem dX7_tellsItem_30 : decode cX7_tellsItem 30 = .ok (.iadd, 1) := by decide +kernel
theorem dX7_tellsItem_31 : decode cX7_tellsItem 31 = .ok (.iaload, 1) := by decide +kernel
theorem dX7_tellsItem_32 : decode cX7_tellsItem 32 = .ok (.istore 4, 2) := by decide +kernel
theorem dX7_tellsItem_34 : decode cX7_tellsItem 34 = .ok (.aload_n 0, 1) := by decide +kernel
theorem dX7_tellsItem_35 : decode cX7_tellsItem 35 = .ok (.getfield 29, 3) := by decide +kernel
theorem dX7_tellsItem_38 : decode cX7_tellsItem 38 = .ok (.iconst 5, 1) := by decide +kernel
theorem dX7_tellsItem_39 : decode cX7_tellsItem 39 = .ok (.iload_n 1, 1) := by decide +kernel
theorem dX7_tellsItem_40 : decode cX7_tellsItem 40 = .ok (.imul, 1) := by decide +kernel
theorem dX7_tellsItem_41 : decode cX7_tellsItem 41 = .ok (.iconst 4, 1) := by decide +kernel
theorem dX7_tellsItem_42 : decode cX7_tellsItem 42 = .ok (.iadd, 1) := by decide +kernel
theorem dX7_tellsItem_43 : decode cX7_tellsItem 43 = .ok (.iaload, 1) := by decide +kernel
theorem dX7_tellsItem_44 : decode cX7_tellsItem 44 = .ok (.istore 5, 2) := by decide +kernel
theorem dX7_tellsItem_46 : decode cX7_tellsItem 46 = .ok (.aload_n 0, 1) := by decide +kernel
theorem dX7_tellsItem_47 : decode cX7_tellsItem 47 = .ok (.getfield 29, 3) := by decide +kernel
theorem dX7_tellsItem_50 : decode cX7_tellsItem 50 = .ok (.iconst 5, 1) := by decide +kernel
theorem dX7_tellsItem_51 : decode cX7_tellsItem 51 = .ok (.iload_n 1, 1) := by decide +kernel
theorem dX7_tellsItem_52 : decode cX7_tellsItem 52 = .ok (.imul, 1) := by decide +kernel
theorem dX7_tellsItem_53 : decode cX7_tellsItem 53 = .ok (.iaload, 1) := by decide +kernel
theorem dX7_tellsItem_54 : decode cX7_tellsItem 54 = .ok (.ifCond .ne 23, 3) := by decide +kernel
theorem dX7_tellsItem_57 : decode cX7_tellsItem 57 = .ok (.aload_n 0, 1) := by decide +kernel
theorem dX7_tellsItem_58 : decode cX7_tellsItem 58 = .ok (.iload_n 2, 1) := by decide +kernel
theorem dX7_tellsItem_59 : decode cX7_tellsItem 59 = .ok (.iload_n 3, 1) := by decide +kernel
theorem dX7_tellsItem_60 : decode cX7_tellsItem 60 = .ok (.iload 4, 2) := by decide +kernel
theorem dX7_tellsItem_62 : decode cX7_tellsItem 62 = .ok (.invokevirtual 173, 3) := by decide +kernel
theorem dX7_tellsItem_65 : decode cX7_tellsItem 65 = .ok (.iconst (-1), 1) := by decide +kernel
theorem dX7_tellsItem_66 : decode cX7_tellsItem 66 = .ok (.if_icmp .lt 7, 3) := by decide +kernel
theorem dX7_tellsItem_69 : decode cX7_tellsItem 69 = .ok (.iconst 1, 1) := by decide +kernel
theorem dX7_tellsItem_70 : decode cX7_tellsItem 70 = .ok (.goto 54, 3) := by decide +kernel
theorem dX7_tellsItem_73 : decode cX7_tellsItem 73 = .ok (.iconst 0, 1) := by decide +kernel
theorem dX7_tellsItem_74 : decode cX7_tellsItem 74 = .ok (.goto 50, 3) := by decide +kernel
theorem dX7_tellsItem_77 : decode cX7_tellsItem 77 = .ok (.aload_n 0, 1) := by decide +kernel
theorem dX7_tellsItem_78 : decode cX7_tellsItem 78 = .ok (.getfield 29, 3) := by decide +kernel
theorem dX7_tellsItem_81 : decode cX7_tellsItem 81 = .ok (.iconst 5, 1) := by decide +kernel
theorem dX7_tellsItem_82 : decode cX7_tellsItem 82 = .ok (.iload_n 1, 1) := by decide +kernel
theorem dX7_tellsItem_83 : decode cX7_tellsItem 83 = .ok (.imul, 1) := by decide +kernel
theorem dX7_tellsItem_84 : decode cX7_tellsItem 84 = .ok (.iaload, 1) := by decide +kernel
theorem dX7_tellsItem_85 : decode cX7_tellsItem 85 = .ok (.iconst 1, 1) := by decide +kernel
theorem dX7_tellsItem_86 : decode cX7_tellsItem 86 = .ok (.if_icmp .ne 24, 3) := by decide +kernel
theorem dX7_tellsItem_89 : decode cX7_tellsItem 89 = .ok (.aload_n 0, 1) := by decide +kernel
theorem dX7_tellsItem_90 : decode cX7_tellsItem 90 = .ok (.iload_n 2, 1) := by decide +kernel
theorem dX7_tellsItem_91 : decode cX7_tellsItem 91 = .ok (.iload_n 3, 1) := by decide +kernel
theorem dX7_tellsItem_92 : decode cX7_tellsItem 92 = .ok (.iload 4, 2) := by decide +kernel
theorem dX7_tellsItem_94 : decode cX7_tellsItem 94 = .ok (.iload 5, 2) := by decide +kernel
theorem dX7_tellsItem_96 : decode cX7_tellsItem 96 = .ok (.invokevirtual 177, 3) := by decide +kernel
theorem dX7_tellsItem_99 : decode cX7_tellsItem 99 = .ok (.ifCond .lt 7, 3) := by decide +kernel
theorem dX7_tellsItem_102 : decode cX7_tellsItem 102 = .ok (.iconst 1, 1) := by decide +kernel
theorem dX7_tellsItem_103 : decode cX7_tellsItem 103 = .ok (.goto 21, 3) := by decide +kernel
theorem dX7_tellsItem_106 : decode cX7_tellsItem 106 = .ok (.iconst 0, 1) := by decide +kernel
theorem dX7_tellsItem_107 : decode cX7_tellsItem 107 = .ok (.goto 17, 3) := by decide +kernel
theorem dX7_tellsItem_110 : decode cX7_tellsItem 110 = .ok (.aload_n 0, 1) := by decide +kernel
theorem dX7_tellsItem_111 : decode cX7_tellsItem 111 = .ok (.iload_n 2, 1) := by decide +kernel
theorem dX7_tellsItem_112 : decode cX7_tellsItem 112 = .ok (.iload_n 3, 1) := by decide +kernel
theorem dX7_tellsItem_113 : decode cX7_tellsItem 113 = .ok (.invokevirtual 181, 3) := by decide +kernel
theorem dX7_tellsItem_116 : decode cX7_tellsItem 116 = .ok (.ifCond .lt 7, 3) := by decide +kernel
theorem dX7_tellsItem_119 : decode cX7_tellsItem 119 = .ok (.iconst 1, 1) := by decide +kernel
theorem dX7_tellsItem_120 : decode cX7_tellsItem 120 = .ok (.goto 4, 3) := by decide +kernel
theorem dX7_tellsItem_123 : decode cX7_tellsItem 123 = .ok (.iconst 0, 1) := by decide +kernel
theorem dX7_tellsItem_124 : decode cX7_tellsItem 124 = .ok (.ireturn, 1) := by decide +kernel
set_option maxRecDepth 20000 in
theorem ggX7_read_X7_reads : GoodIn wsX7_read wsX7_reads := goodIn_r _ [10, 11, 5, 12, 13, 14, 15, 16, 17, 9, 18, 1, 19, 20, 21, 22, 23, 24, 25, 26, 27, 28, 29, 30, 31, 32, 33, 34, 35, 93, 94, 95, 96, 97, 98, 99, 100, 101, 102, 103, 104, 105, 106, 107, 108, 109, 110] (by decide +kernel) (by decide +kernel)
set_option maxRecDepth 20000 in
theorem gX7_read_X7_reads : GoodIn wsX7_read (wsV RX7 184 RX7 yX7_reads wsX7_reads) := goodIn_app (goodIn_of _ (by decide +kernel)) ggX7_read_X7_reads
set_option maxRecDepth 20000 in
theorem ggX7_read_X7_empties : GoodIn wsX7_read wsX7_empties := goodIn_r _ [39, 3, 93, 94, 95, 96, 97, 98, 99, 100, 101, 102, 103, 104, 105, 106, 107, 108, 109, 110] (by decide +kernel) (by decide +kernel)
set_option maxRecDepth 20000 in
theorem gX7_read_X7_empties : GoodIn wsX7_read (wsV RX7 44 RX7 yX7_empties wsX7_empties) := goodIn_app (goodIn_of _ (by decide +kernel)) ggX7_read_X7_empties
set_option maxRecDepth 20000 in
theorem ggX7_read_X7_tellsItem : GoodIn wsX7_read wsX7_tellsItem := goodIn_r _ [43, 13, 44, 45, 46, 9, 47, 48, 49, 3, 50, 51, 52, 53, 27, 28, 29, 54, 55, 56, 57, 58, 4, 59, 60, 61, 62, 63, 64, 65, 66, 67, 68, 69, 70, 71, 72, 73, 74, 75, 76, 77, 78, 79, 80, 81, 82, 83, 84, 85, 86, 87, 88, 89, 90, 91, 92, 93, 94, 95, 96, 97, 98, 99, 100, 101, 102, 103, 104, 105, 106, 107, 108, 109, 110] (by decide +kernel) (by decide +kernel)
set_option maxRecDepth 20000 in
theorem gX7_read_X7_tellsItem : GoodIn wsX7_read (wsV RX7 188 RX7 yX7_tellsItem wsX7_tellsItem) := goodIn_app (goodIn_of _ (by decide +kernel)) ggX7_read_X7_tellsItem
theorem dX7_read_0 : decode cX7_read 0 = .ok (.aload_n 0, 1) := by decide +kernel
theorem dX7_read_1 : decode cX7_read 1 = .ok (.invokevirtual 184, 3) := by decide +kernel
theorem dX7_read_4 : decode cX7_read 4 = .ok (.ifCond .ne 11, 3) := by decide +kernel
theorem dX7_read_7 : decode cX7_read 7 = .ok (.bipush (-10), 2) := by decide +kernel
theorem dX7_read_9 : decode cX7_read 9 = .ok (.aload_n 0, 1) := by decide +kernel
theorem dX7_read_10 : decode cX7_read 10 = .ok (.getfield 150, 3) := by decide +kernel
theorem dX7_read_13 : decode cX7_read 13 = .ok (.isub, 1) := by decide +kernel
theorem dX7_read_14 : decode cX7_read 14 = .ok (.ireturn, 1) := by decide +kernel
theorem dX7_read_15 : decode cX7_read 15 = .ok (.iconst 0, 1) := by decide +kernel
theorem dX7_read_16 : decode cX7_read 16 = .ok (.istore_n 1, 1) := by decide +kernel
theorem dX7_read_17 : decode cX7_read 17 = .ok (.iload_n 1, 1) := by decide +kernel
theorem dX7_read_18 : decode cX7_read 18 = .ok (.bipush 66, 2) := by decide +kernel
theorem dX7_read_20 : decode cX7_read 20 = .ok (.if_icmp .ge 21, 3) := by decide +kernel
theorem dX7_read_23 : decode cX7_read 23 = .ok (.aload_n 0, 1) := by decide +kernel
theorem dX7_read_24 : decode cX7_read 24 = .ok (.getfield 20, 3) := by decide +kernel
theorem dX7_read_27 : decode cX7_read 27 = .ok (.iload_n 1, 1) := by decide +kernel
theorem dX7_read_28 : decode cX7_read 28 = .ok (.aload_n 0, 1) := by decide +kernel
theorem dX7_read_29 : decode cX7_read 29 = .ok (.getfield 7, 3) := by decide +kernel
theorem dX7_read_32 : decode cX7_read 32 = .ok (.iload_n 1, 1) := by decide +kernel
theorem dX7_read_33 : decode cX7_read 33 = .ok (.iaload, 1) := by decide +kernel
theorem dX7_read_34 : decode cX7_read 34 = .ok (.iastore, 1) := by decide +kernel
theorem dX7_read_35 : decode cX7_read 35 = .ok (.iinc 1 1, 3) := by decide +kernel
theorem dX7_read_38 : decode cX7_read 38 = .ok (.goto (-21), 3) := by decide +kernel
theorem dX7_read_41 : decode cX7_read 41 = .ok (.aload_n 0, 1) := by decide +kernel
theorem dX7_read_42 : decode cX7_read 42 = .ok (.invokevirtual 44, 3) := by decide +kernel
theorem dX7_read_45 : decode cX7_read 45 = .ok (.aload_n 0, 1) := by decide +kernel
theorem dX7_read_46 : decode cX7_read 46 = .ok (.iconst 1, 1) := by decide +kernel
theorem dX7_read_47 : decode cX7_read 47 = .ok (.putfield 47, 3) := by decide +kernel
theorem dX7_read_50 : decode cX7_read 50 = .ok (.iconst 0, 1) := by decide +kernel
theorem dX7_read_51 : decode cX7_read 51 = .ok (.istore_n 1, 1) := by decide +kernel
theorem dX7_read_52 : decode cX7_read 52 = .ok (.iload_n 1, 1) := by decide +kernel
theorem dX7_read_53 : decode cX7_read 53 = .ok (.aload_n 0, 1) := by decide +kernel
theorem dX7_read_54 : decode cX7_read 54 = .ok (.getfield 167, 3) := by decide +kernel
theorem dX7_read_57 : decode cX7_read 57 = .ok (.if_icmp .ge 17, 3) := by decide +kernel
theorem dX7_read_60 : decode cX7_read 60 = .ok (.aload_n 0, 1) := by decide +kernel
theorem dX7_read_61 : decode cX7_read 61 = .ok (.iload_n 1, 1) := by decide +kernel
theorem dX7_read_62 : decode cX7_read 62 = .ok (.invokevirtual 188, 3) := by decide +kernel
theorem dX7_read_65 : decode cX7_read 65 = .ok (.ifCond .eq 9, 3) := by decide +kernel
theorem dX7_read_68 : decode cX7_read 68 = .ok (.iinc 1 1, 3) := by decide +kernel
theorem dX7_read_71 : decode cX7_read 71 = .ok (.goto (-19), 3) := by decide +kernel
theorem dX7_read_74 : decode cX7_read 74 = .ok (.aload_n 0, 1) := by decide +kernel
theorem dX7_read_75 : decode cX7_read 75 = .ok (.iconst 0, 1) := by decide +kernel
theorem dX7_read_76 : decode cX7_read 76 = .ok (.putfield 47, 3) := by decide +kernel
theorem dX7_read_79 : decode cX7_read 79 = .ok (.iload_n 1, 1) := by decide +kernel
theorem dX7_read_80 : decode cX7_read 80 = .ok (.aload_n 0, 1) := by decide +kernel
theorem dX7_read_81 : decode cX7_read 81 = .ok (.getfield 167, 3) := by decide +kernel
theorem dX7_read_84 : decode cX7_read 84 = .ok (.if_icmp .ne 8, 3) := by decide +kernel
theorem dX7_read_87 : decode cX7_read 87 = .ok (.aload_n 0, 1) := by decide +kernel
theorem dX7_read_88 : decode cX7_read 88 = .ok (.getfield 167, 3) := by decide +kernel
theorem dX7_read_91 : decode cX7_read 91 = .ok (.ireturn, 1) := by decide +kernel
theorem dX7_read_92 : decode cX7_read 92 = .ok (.iconst 0, 1) := by decide +kernel
theorem dX7_read_93 : decode cX7_read 93 = .ok (.istore_n 2, 1) := by decide +kernel
theorem dX7_read_94 : decode cX7_read 94 = .ok (.iload_n 2, 1) := by decide +kernel
theorem dX7_read_95 : decode cX7_read 95 = .ok (.bipush 66, 2) := by decide +kernel
theorem dX7_read_97 : decode cX7_read 97 = .ok (.if_icmp .ge 21, 3) := by decide +kernel
theorem dX7_read_100 : decode cX7_read 100 = .ok (.aload_n 0, 1) := by decide +kernel
theorem dX7_read_101 : decode cX7_read 101 = .ok (.getfield 7, 3) := by decide +kernel
theorem dX7_read_104 : decode cX7_read 104 = .ok (.iload_n 2, 1) := by decide +kernel
theorem dX7_read_105 : decode cX7_read 105 = .ok (.aload_n 0, 1) := by decide +kernel
theorem dX7_read_106 : decode cX7_read 106 = .ok (.getfield 20, 3) := by decide +kernel
theorem dX7_read_109 : decode cX7_read 109 = .ok (.iload_n 2, 1) := by decide +kernel
theorem dX7_read_110 : decode cX7_read 110 = .ok (.iaload, 1) := by decide +kernel
theorem dX7_read_111 : decode cX7_read 111 = .ok (.iastore, 1) := by decide +kernel
theorem dX7_read_112 : decode cX7_read 112 = .ok (.iinc 2 1, 3) := by decide +kernel
theorem dX7_read_115 : decode cX7_read 115 = .ok (.goto (-21), 3) := by decide +kernel
theorem dX7_read_118 : decode cX7_read 118 = .ok (.sipush (-1000), 3) := by decide +kernel
theorem dX7_read_121 : decode cX7_read 121 = .ok (.iload_n 1, 1) := by decide +kernel
theorem dX7_read_122 : decode cX7_read 122 = .ok (.isub, 1) := by decide +kernel
theorem dX7_read_123 : decode cX7_read 123 = .ok (.ireturn, 1) := by decide +kernel
set_option maxRecDepth 20000 in
theorem ggX7_called_X7_of : GoodIn wsX7_called wsX7_of := goodIn_r _ [6, 1, 29, 30, 31, 32, 33, 34, 35, 36, 37, 38, 39, 40, 41, 42, 43, 44, 45, 46] (by decide +kernel) (by decide +kernel)
set_option maxRecDepth 20000 in
theorem gX7_called_X7_of : GoodIn wsX7_called (wsV RX7 121 RX7 yX7_of wsX7_of) := goodIn_app (goodIn_of _ (by decide +kernel)) ggX7_called_X7_of
set_option maxRecDepth 20000 in
theorem ggX7_called_X7_upTo : GoodIn wsX7_called wsX7_upTo := goodIn_r _ [10, 1, 29, 30, 31, 32, 33, 34, 35, 36, 37, 38, 39, 40, 41, 42, 43, 44, 45, 46] (by decide +kernel) (by decide +kernel)
set_option maxRecDepth 20000 in
theorem gX7_called_X7_upTo : GoodIn wsX7_called (wsV RX7 105 RX7 yX7_upTo wsX7_upTo) := goodIn_app (goodIn_of _ (by decide +kernel)) ggX7_called_X7_upTo
set_option maxRecDepth 20000 in
theorem ggX7_called_X7_turns : GoodIn wsX7_called wsX7_turns := goodIn_r _ [13, 14, 15, 5, 16, 17, 18, 19, 20, 21, 22, 23, 24, 25, 26, 27, 28] (by decide +kernel) (by decide +kernel)
set_option maxRecDepth 20000 in
theorem gX7_called_X7_turns : GoodIn wsX7_called (va_wsS RX7 191 yX7_turns wsX7_turns) := goodIn_app (goodIn_of _ (by decide +kernel)) ggX7_called_X7_turns
theorem dX7_called_0 : decode cX7_called 0 = .ok (.iconst 0, 1) := by decide +kernel
theorem dX7_called_1 : decode cX7_called 1 = .ok (.istore 4, 2) := by decide +kernel
theorem dX7_called_3 : decode cX7_called 3 = .ok (.iconst 0, 1) := by decide +kernel
theorem dX7_called_4 : decode cX7_called 4 = .ok (.istore 5, 2) := by decide +kernel
theorem dX7_called_6 : decode cX7_called 6 = .ok (.iload 5, 2) := by decide +kernel
theorem dX7_called_8 : decode cX7_called 8 = .ok (.aload_n 0, 1) := by decide +kernel
theorem dX7_called_9 : decode cX7_called 9 = .ok (.getfield 7, 3) := by decide +kernel
theorem dX7_called_12 : decode cX7_called 12 = .ok (.bipush 15, 2) := by decide +kernel
theorem dX7_called_14 : decode cX7_called 14 = .ok (.iaload, 1) := by decide +kernel
theorem dX7_called_15 : decode cX7_called 15 = .ok (.if_icmp .ge 72, 3) := by decide +kernel
theorem dX7_called_18 : decode cX7_called 18 = .ok (.aload_n 0, 1) := by decide +kernel
theorem dX7_called_19 : decode cX7_called 19 = .ok (.iload_n 1, 1) := by decide +kernel
theorem dX7_called_20 : decode cX7_called 20 = .ok (.aload_n 0, 1) := by decide +kernel
theorem dX7_called_21 : decode cX7_called 21 = .ok (.iload 5, 2) := by decide +kernel
theorem dX7_called_23 : decode cX7_called 23 = .ok (.iconst 2, 1) := by decide +kernel
theorem dX7_called_24 : decode cX7_called 24 = .ok (.invokevirtual 121, 3) := by decide +kernel
theorem dX7_called_27 : decode cX7_called 27 = .ok (.invokevirtual 105, 3) := by decide +kernel
theorem dX7_called_30 : decode cX7_called 30 = .ok (.iload_n 3, 1) := by decide +kernel
theorem dX7_called_31 : decode cX7_called 31 = .ok (.if_icmp .lt 29, 3) := by decide +kernel
theorem dX7_called_34 : decode cX7_called 34 = .ok (.aload_n 0, 1) := by decide +kernel
theorem dX7_called_35 : decode cX7_called 35 = .ok (.iload 5, 2) := by decide +kernel
theorem dX7_called_37 : decode cX7_called 37 = .ok (.iconst 0, 1) := by decide +kernel
theorem dX7_called_38 : decode cX7_called 38 = .ok (.invokevirtual 121, 3) := by decide +kernel
theorem dX7_called_41 : decode cX7_called 41 = .ok (.aload_n 0, 1) := by decide +kernel
theorem dX7_called_42 : decode cX7_called 42 = .ok (.iload 5, 2) := by decide +kernel
theorem dX7_called_44 : decode cX7_called 44 = .ok (.iconst 1, 1) := by decide +kernel
theorem dX7_called_45 : decode cX7_called 45 = .ok (.invokevirtual 121, 3) := by decide +kernel
theorem dX7_called_48 : decode cX7_called 48 = .ok (.iload_n 2, 1) := by decide +kernel
theorem dX7_called_49 : decode cX7_called 49 = .ok (.iload_n 3, 1) := by decide +kernel
theorem dX7_called_50 : decode cX7_called 50 = .ok (.invokestatic 191, 3) := by decide +kernel
theorem dX7_called_53 : decode cX7_called 53 = .ok (.ifCond .eq 7, 3) := by decide +kernel
theorem dX7_called_56 : decode cX7_called 56 = .ok (.iconst 1, 1) := by decide +kernel
theorem dX7_called_57 : decode cX7_called 57 = .ok (.goto 4, 3) := by decide +kernel
theorem dX7_called_60 : decode cX7_called 60 = .ok (.iconst 0, 1) := by decide +kernel
theorem dX7_called_61 : decode cX7_called 61 = .ok (.istore 6, 2) := by decide +kernel
theorem dX7_called_63 : decode cX7_called 63 = .ok (.iload 4, 2) := by decide +kernel
theorem dX7_called_65 : decode cX7_called 65 = .ok (.iload 6, 2) := by decide +kernel
theorem dX7_called_67 : decode cX7_called 67 = .ok (.ifCond .eq 10, 3) := by decide +kernel
theorem dX7_called_70 : decode cX7_called 70 = .ok (.iconst 1, 1) := by decide +kernel
theorem dX7_called_71 : decode cX7_called 71 = .ok (.iload 5, 2) := by decide +kernel
theorem dX7_called_73 : decode cX7_called 73 = .ok (.ishl, 1) := by decide +kernel
theorem dX7_called_74 : decode cX7_called 74 = .ok (.goto 4, 3) := by decide +kernel
theorem dX7_called_77 : decode cX7_called 77 = .ok (.iconst 0, 1) := by decide +kernel
theorem dX7_called_78 : decode cX7_called 78 = .ok (.ior, 1) := by decide +kernel
theorem dX7_called_79 : decode cX7_called 79 = .ok (.istore 4, 2) := by decide +kernel
theorem dX7_called_81 : decode cX7_called 81 = .ok (.iinc 5 1, 3) := by decide +kernel
theorem dX7_called_84 : decode cX7_called 84 = .ok (.goto (-78), 3) := by decide +kernel
theorem dX7_called_87 : decode cX7_called 87 = .ok (.iload 4, 2) := by decide +kernel
theorem dX7_called_89 : decode cX7_called 89 = .ok (.ireturn, 1) := by decide +kernel
set_option maxRecDepth 20000 in
theorem ggX7_call_X7_isPlace : GoodIn wsX7_call wsX7_isPlace := goodIn_r _ [4, 5, 6, 7, 3, 8] (by decide +kernel) (by decide +kernel)
set_option maxRecDepth 20000 in
theorem gX7_call_X7_isPlace : GoodIn wsX7_call (va_wsS RX7 99 yX7_isPlace wsX7_isPlace) := goodIn_app (goodIn_of _ (by decide +kernel)) ggX7_call_X7_isPlace
set_option maxRecDepth 20000 in
theorem ggX7_call_X7_isTune : GoodIn wsX7_call wsX7_isTune := goodIn_r _ [11, 12, 13, 14, 15, 16, 17, 18, 19, 20, 21, 6, 7, 3, 8] (by decide +kernel) (by decide +kernel)
set_option maxRecDepth 20000 in
theorem gX7_call_X7_isTune : GoodIn wsX7_call (va_wsS RX7 108 yX7_isTune wsX7_isTune) := goodIn_app (goodIn_of _ (by decide +kernel)) ggX7_call_X7_isTune
set_option maxRecDepth 20000 in
theorem ggX7_call_X7_isWind : GoodIn wsX7_call wsX7_isWind := goodIn_r _ [24, 25, 6, 7, 3, 8] (by decide +kernel) (by decide +kernel)
set_option maxRecDepth 20000 in
theorem gX7_call_X7_isWind : GoodIn wsX7_call (va_wsS RX7 126 yX7_isWind wsX7_isWind) := goodIn_app (goodIn_of _ (by decide +kernel)) ggX7_call_X7_isWind
set_option maxRecDepth 20000 in
theorem ggX7_call_X7_called : GoodIn wsX7_call wsX7_called := goodIn_r _ [29, 30, 31, 32, 33, 3, 34, 35, 36, 37, 38, 39, 40, 41, 42, 43, 44, 45, 46, 47, 48, 49, 50, 51, 52, 53, 54, 55, 56, 67, 68, 69, 70, 71, 72, 73, 74, 75, 76, 77, 78, 79, 80, 81, 82, 83, 84] (by decide +kernel) (by decide +kernel)
set_option maxRecDepth 20000 in
theorem gX7_call_X7_called : GoodIn wsX7_call (wsV RX7 195 RX7 yX7_called wsX7_called) := goodIn_app (goodIn_of _ (by decide +kernel)) ggX7_call_X7_called
set_option maxRecDepth 20000 in
theorem ggX7_call_X7_bad : GoodIn wsX7_call wsX7_bad := goodIn_r _ [60, 61, 62, 63, 3, 64, 65, 66, 67, 68, 69, 70, 71, 72, 73, 74, 75, 76, 77, 78, 79, 80, 81, 82, 83, 84] (by decide +kernel) (by decide +kernel)
set_option maxRecDepth 20000 in
theorem gX7_call_X7_bad : GoodIn wsX7_call (wsV RX7 111 RX7 yX7_bad wsX7_bad) := goodIn_app (goodIn_of _ (by decide +kernel)) ggX7_call_X7_bad
theorem dX7_call_0 : decode cX7_call 0 = .ok (.iload_n 1, 1) := by decide +kernel
theorem dX7_call_1 : decode cX7_call 1 = .ok (.invokestatic 99, 3) := by decide +kernel
theorem dX7_call_4 : decode cX7_call 4 = .ok (.ifCond .eq 27, 3) := by decide +kernel
theorem dX7_call_7 : decode cX7_call 7 = .ok (.iload_n 2, 1) := by decide +kernel
theorem dX7_call_8 : decode cX7_call 8 = .ok (.invokestatic 108, 3) := by decide +kernel
theorem dX7_call_11 : decode cX7_call 11 = .ok (.ifCond .eq 20, 3) := by decide +kernel
theorem dX7_call_14 : decode cX7_call 14 = .ok (.iload_n 3, 1) := by decide +kernel
theorem dX7_call_15 : decode cX7_call 15 = .ok (.invokestatic 126, 3) := by decide +kernel
theorem dX7_call_18 : decode cX7_call 18 = .ok (.ifCond .eq 13, 3) := by decide +kernel
theorem dX7_call_21 : decode cX7_call 21 = .ok (.aload_n 0, 1) := by decide +kernel
theorem dX7_call_22 : decode cX7_call 22 = .ok (.iload_n 1, 1) := by decide +kernel
theorem dX7_call_23 : decode cX7_call 23 = .ok (.iload_n 2, 1) := by decide +kernel
theorem dX7_call_24 : decode cX7_call 24 = .ok (.iload_n 3, 1) := by decide +kernel
theorem dX7_call_25 : decode cX7_call 25 = .ok (.invokevirtual 195, 3) := by decide +kernel
theorem dX7_call_28 : decode cX7_call 28 = .ok (.goto 7, 3) := by decide +kernel
theorem dX7_call_31 : decode cX7_call 31 = .ok (.aload_n 0, 1) := by decide +kernel
theorem dX7_call_32 : decode cX7_call 32 = .ok (.invokevirtual 111, 3) := by decide +kernel
theorem dX7_call_35 : decode cX7_call 35 = .ok (.ireturn, 1) := by decide +kernel
set_option maxRecDepth 20000 in
theorem ggX7_whistle_X7_isPlace : GoodIn wsX7_whistle wsX7_isPlace := goodIn_r _ [5, 6, 7, 8, 4, 9] (by decide +kernel) (by decide +kernel)
set_option maxRecDepth 20000 in
theorem gX7_whistle_X7_isPlace : GoodIn wsX7_whistle (va_wsS RX7 99 yX7_isPlace wsX7_isPlace) := goodIn_app (goodIn_of _ (by decide +kernel)) ggX7_whistle_X7_isPlace
set_option maxRecDepth 20000 in
theorem ggX7_whistle_X7_isTune : GoodIn wsX7_whistle wsX7_isTune := goodIn_r _ [12, 13, 14, 15, 16, 17, 18, 19, 20, 21, 22, 7, 8, 4, 9] (by decide +kernel) (by decide +kernel)
set_option maxRecDepth 20000 in
theorem gX7_whistle_X7_isTune : GoodIn wsX7_whistle (va_wsS RX7 108 yX7_isTune wsX7_isTune) := goodIn_app (goodIn_of _ (by decide +kernel)) ggX7_whistle_X7_isTune
set_option maxRecDepth 20000 in
theorem ggX7_whistle_X7_isWind : GoodIn wsX7_whistle wsX7_isWind := goodIn_r _ [25, 26, 7, 8, 4, 9] (by decide +kernel) (by decide +kernel)
set_option maxRecDepth 20000 in
theorem gX7_whistle_X7_isWind : GoodIn wsX7_whistle (va_wsS RX7 126 yX7_isWind wsX7_isWind) := goodIn_app (goodIn_of _ (by decide +kernel)) ggX7_whistle_X7_isWind
set_option maxRecDepth 20000 in
theorem ggX7_whistle_X7_bad : GoodIn wsX7_whistle wsX7_bad := goodIn_r _ [30, 31, 32, 33, 4, 34, 35, 36, 71, 72, 73, 74, 75, 76, 77, 78, 79, 80, 81, 82, 83, 84, 85, 86, 87, 88] (by decide +kernel) (by decide +kernel)
set_option maxRecDepth 20000 in
theorem gX7_whistle_X7_bad : GoodIn wsX7_whistle (wsV RX7 111 RX7 yX7_bad wsX7_bad) := goodIn_app (goodIn_of _ (by decide +kernel)) ggX7_whistle_X7_bad
set_option maxRecDepth 20000 in
theorem ggX7_whistle_X7_full : GoodIn wsX7_whistle wsX7_full := goodIn_r _ [40, 31, 32, 33, 4, 34, 35, 36, 71, 72, 73, 74, 75, 76, 77, 78, 79, 80, 81, 82, 83, 84, 85, 86, 87, 88] (by decide +kernel) (by decide +kernel)
set_option maxRecDepth 20000 in
theorem gX7_whistle_X7_full : GoodIn wsX7_whistle (wsV RX7 115 RX7 yX7_full wsX7_full) := goodIn_app (goodIn_of _ (by decide +kernel)) ggX7_whistle_X7_full
set_option maxRecDepth 20000 in
theorem ggX7_whistle_X7_called : GoodIn wsX7_whistle wsX7_called := goodIn_r _ [44, 1, 45, 46, 47, 4, 48, 49, 50, 51, 52, 53, 54, 55, 56, 57, 58, 59, 60, 61, 62, 63, 64, 65, 66, 67, 68, 69, 70, 71, 72, 73, 74, 75, 76, 77, 78, 79, 80, 81, 82, 83, 84, 85, 86, 87, 88] (by decide +kernel) (by decide +kernel)
set_option maxRecDepth 20000 in
theorem gX7_whistle_X7_called : GoodIn wsX7_whistle (wsV RX7 195 RX7 yX7_called wsX7_called) := goodIn_app (goodIn_of _ (by decide +kernel)) ggX7_whistle_X7_called
theorem dX7_whistle_0 : decode cX7_whistle 0 = .ok (.iload_n 1, 1) := by decide +kernel
theorem dX7_whistle_1 : decode cX7_whistle 1 = .ok (.invokestatic 99, 3) := by decide +kernel
theorem dX7_whistle_4 : decode cX7_whistle 4 = .ok (.ifCond .eq 17, 3) := by decide +kernel
theorem dX7_whistle_7 : decode cX7_whistle 7 = .ok (.iload_n 2, 1) := by decide +kernel
theorem dX7_whistle_8 : decode cX7_whistle 8 = .ok (.invokestatic 108, 3) := by decide +kernel
theorem dX7_whistle_11 : decode cX7_whistle 11 = .ok (.ifCond .eq 10, 3) := by decide +kernel
theorem dX7_whistle_14 : decode cX7_whistle 14 = .ok (.iload_n 3, 1) := by decide +kernel
theorem dX7_whistle_15 : decode cX7_whistle 15 = .ok (.invokestatic 126, 3) := by decide +kernel
theorem dX7_whistle_18 : decode cX7_whistle 18 = .ok (.ifCond .ne 8, 3) := by decide +kernel
theorem dX7_whistle_21 : decode cX7_whistle 21 = .ok (.aload_n 0, 1) := by decide +kernel
theorem dX7_whistle_22 : decode cX7_whistle 22 = .ok (.invokevirtual 111, 3) := by decide +kernel
theorem dX7_whistle_25 : decode cX7_whistle 25 = .ok (.ireturn, 1) := by decide +kernel
theorem dX7_whistle_26 : decode cX7_whistle 26 = .ok (.aload_n 0, 1) := by decide +kernel
theorem dX7_whistle_27 : decode cX7_whistle 27 = .ok (.getfield 7, 3) := by decide +kernel
theorem dX7_whistle_30 : decode cX7_whistle 30 = .ok (.bipush 17, 2) := by decide +kernel
theorem dX7_whistle_32 : decode cX7_whistle 32 = .ok (.iaload, 1) := by decide +kernel
theorem dX7_whistle_33 : decode cX7_whistle 33 = .ok (.bipush 8, 2) := by decide +kernel
theorem dX7_whistle_35 : decode cX7_whistle 35 = .ok (.if_icmp .ne 8, 3) := by decide +kernel
theorem dX7_whistle_38 : decode cX7_whistle 38 = .ok (.aload_n 0, 1) := by decide +kernel
theorem dX7_whistle_39 : decode cX7_whistle 39 = .ok (.invokevirtual 115, 3) := by decide +kernel
theorem dX7_whistle_42 : decode cX7_whistle 42 = .ok (.ireturn, 1) := by decide +kernel
theorem dX7_whistle_43 : decode cX7_whistle 43 = .ok (.aload_n 0, 1) := by decide +kernel
theorem dX7_whistle_44 : decode cX7_whistle 44 = .ok (.getfield 7, 3) := by decide +kernel
theorem dX7_whistle_47 : decode cX7_whistle 47 = .ok (.bipush 58, 2) := by decide +kernel
theorem dX7_whistle_49 : decode cX7_whistle 49 = .ok (.aload_n 0, 1) := by decide +kernel
theorem dX7_whistle_50 : decode cX7_whistle 50 = .ok (.getfield 7, 3) := by decide +kernel
theorem dX7_whistle_53 : decode cX7_whistle 53 = .ok (.bipush 17, 2) := by decide +kernel
theorem dX7_whistle_55 : decode cX7_whistle 55 = .ok (.iaload, 1) := by decide +kernel
theorem dX7_whistle_56 : decode cX7_whistle 56 = .ok (.iadd, 1) := by decide +kernel
theorem dX7_whistle_57 : decode cX7_whistle 57 = .ok (.aload_n 0, 1) := by decide +kernel
theorem dX7_whistle_58 : decode cX7_whistle 58 = .ok (.iload_n 1, 1) := by decide +kernel
theorem dX7_whistle_59 : decode cX7_whistle 59 = .ok (.iload_n 2, 1) := by decide +kernel
theorem dX7_whistle_60 : decode cX7_whistle 60 = .ok (.iload_n 3, 1) := by decide +kernel
theorem dX7_whistle_61 : decode cX7_whistle 61 = .ok (.invokevirtual 195, 3) := by decide +kernel
theorem dX7_whistle_64 : decode cX7_whistle 64 = .ok (.iastore, 1) := by decide +kernel
theorem dX7_whistle_65 : decode cX7_whistle 65 = .ok (.aload_n 0, 1) := by decide +kernel
theorem dX7_whistle_66 : decode cX7_whistle 66 = .ok (.getfield 7, 3) := by decide +kernel
theorem dX7_whistle_69 : decode cX7_whistle 69 = .ok (.bipush 17, 2) := by decide +kernel
theorem dX7_whistle_71 : decode cX7_whistle 71 = .ok (.dup2, 1) := by decide +kernel
theorem dX7_whistle_72 : decode cX7_whistle 72 = .ok (.iaload, 1) := by decide +kernel
theorem dX7_whistle_73 : decode cX7_whistle 73 = .ok (.iconst 1, 1) := by decide +kernel
theorem dX7_whistle_74 : decode cX7_whistle 74 = .ok (.iadd, 1) := by decide +kernel
theorem dX7_whistle_75 : decode cX7_whistle 75 = .ok (.iastore, 1) := by decide +kernel
theorem dX7_whistle_76 : decode cX7_whistle 76 = .ok (.aload_n 0, 1) := by decide +kernel
theorem dX7_whistle_77 : decode cX7_whistle 77 = .ok (.getfield 7, 3) := by decide +kernel
theorem dX7_whistle_80 : decode cX7_whistle 80 = .ok (.bipush 17, 2) := by decide +kernel
theorem dX7_whistle_82 : decode cX7_whistle 82 = .ok (.iaload, 1) := by decide +kernel
theorem dX7_whistle_83 : decode cX7_whistle 83 = .ok (.iconst 1, 1) := by decide +kernel
theorem dX7_whistle_84 : decode cX7_whistle 84 = .ok (.isub, 1) := by decide +kernel
theorem dX7_whistle_85 : decode cX7_whistle 85 = .ok (.ireturn, 1) := by decide +kernel
set_option maxRecDepth 20000 in
theorem ggX7_turned_X7_in : GoodIn wsX7_turned wsX7_in := goodIn_r _ [5] (by decide +kernel) (by decide +kernel)
set_option maxRecDepth 20000 in
theorem gX7_turned_X7_in : GoodIn wsX7_turned (va_wsS RX7 57 yX7_in wsX7_in) := goodIn_app (goodIn_of _ (by decide +kernel)) ggX7_turned_X7_in
set_option maxRecDepth 20000 in
theorem ggX7_turned_X7_bad : GoodIn wsX7_turned wsX7_bad := goodIn_r _ [9, 10, 11, 12, 4, 13, 14, 15, 16, 17, 18, 19, 20, 21, 22, 23, 24, 25, 26, 27, 28, 29, 30, 31, 32, 33] (by decide +kernel) (by decide +kernel)
set_option maxRecDepth 20000 in
theorem gX7_turned_X7_bad : GoodIn wsX7_turned (wsV RX7 111 RX7 yX7_bad wsX7_bad) := goodIn_app (goodIn_of _ (by decide +kernel)) ggX7_turned_X7_bad
theorem dX7_turned_0 : decode cX7_turned 0 = .ok (.iload_n 1, 1) := by decide +kernel
theorem dX7_turned_1 : decode cX7_turned 1 = .ok (.i2l, 1) := by decide +kernel
theorem dX7_turned_2 : decode cX7_turned 2 = .ok (.lconst 0, 1) := by decide +kernel
theorem dX7_turned_3 : decode cX7_turned 3 = .ok (.aload_n 0, 1) := by decide +kernel
theorem dX7_turned_4 : decode cX7_turned 4 = .ok (.getfield 7, 3) := by decide +kernel
theorem dX7_turned_7 : decode cX7_turned 7 = .ok (.bipush 17, 2) := by decide +kernel
theorem dX7_turned_9 : decode cX7_turned 9 = .ok (.iaload, 1) := by decide +kernel
theorem dX7_turned_10 : decode cX7_turned 10 = .ok (.iconst 1, 1) := by decide +kernel
theorem dX7_turned_11 : decode cX7_turned 11 = .ok (.isub, 1) := by decide +kernel
theorem dX7_turned_12 : decode cX7_turned 12 = .ok (.i2l, 1) := by decide +kernel
theorem dX7_turned_13 : decode cX7_turned 13 = .ok (.invokestatic 57, 3) := by decide +kernel
theorem dX7_turned_16 : decode cX7_turned 16 = .ok (.ifCond .eq 15, 3) := by decide +kernel
theorem dX7_turned_19 : decode cX7_turned 19 = .ok (.aload_n 0, 1) := by decide +kernel
theorem dX7_turned_20 : decode cX7_turned 20 = .ok (.getfield 7, 3) := by decide +kernel
theorem dX7_turned_23 : decode cX7_turned 23 = .ok (.bipush 58, 2) := by decide +kernel
theorem dX7_turned_25 : decode cX7_turned 25 = .ok (.iload_n 1, 1) := by decide +kernel
theorem dX7_turned_26 : decode cX7_turned 26 = .ok (.iadd, 1) := by decide +kernel
theorem dX7_turned_27 : decode cX7_turned 27 = .ok (.iaload, 1) := by decide +kernel
theorem dX7_turned_28 : decode cX7_turned 28 = .ok (.goto 7, 3) := by decide +kernel
theorem dX7_turned_31 : decode cX7_turned 31 = .ok (.aload_n 0, 1) := by decide +kernel
theorem dX7_turned_32 : decode cX7_turned 32 = .ok (.invokevirtual 111, 3) := by decide +kernel
theorem dX7_turned_35 : decode cX7_turned 35 = .ok (.ireturn, 1) := by decide +kernel
set_option maxRecDepth 20000 in
theorem ggX7_heardOf_X7_isOne : GoodIn wsX7_heardOf wsX7_isOne := goodIn_r _ [6, 1, 7, 8, 5, 9, 20, 21, 22, 23, 24, 25, 26, 27, 28, 29, 30, 31, 32, 33, 34, 35, 36, 37] (by decide +kernel) (by decide +kernel)
set_option maxRecDepth 20000 in
theorem gX7_heardOf_X7_isOne : GoodIn wsX7_heardOf (wsV RX7 118 RX7 yX7_isOne wsX7_isOne) := goodIn_app (goodIn_of _ (by decide +kernel)) ggX7_heardOf_X7_isOne
set_option maxRecDepth 20000 in
theorem ggX7_heardOf_X7_bad : GoodIn wsX7_heardOf wsX7_bad := goodIn_r _ [13, 14, 15, 16, 5, 17, 18, 19, 20, 21, 22, 23, 24, 25, 26, 27, 28, 29, 30, 31, 32, 33, 34, 35, 36, 37] (by decide +kernel) (by decide +kernel)
set_option maxRecDepth 20000 in
theorem gX7_heardOf_X7_bad : GoodIn wsX7_heardOf (wsV RX7 111 RX7 yX7_bad wsX7_bad) := goodIn_app (goodIn_of _ (by decide +kernel)) ggX7_heardOf_X7_bad
theorem dX7_heardOf_0 : decode cX7_heardOf 0 = .ok (.aload_n 0, 1) := by decide +kernel
theorem dX7_heardOf_1 : decode cX7_heardOf 1 = .ok (.iload_n 1, 1) := by decide +kernel
theorem dX7_heardOf_2 : decode cX7_heardOf 2 = .ok (.invokevirtual 118, 3) := by decide +kernel
theorem dX7_heardOf_5 : decode cX7_heardOf 5 = .ok (.ifCond .ne 8, 3) := by decide +kernel
theorem dX7_heardOf_8 : decode cX7_heardOf 8 = .ok (.aload_n 0, 1) := by decide +kernel
theorem dX7_heardOf_9 : decode cX7_heardOf 9 = .ok (.invokevirtual 111, 3) := by decide +kernel
theorem dX7_heardOf_12 : decode cX7_heardOf 12 = .ok (.ireturn, 1) := by decide +kernel
theorem dX7_heardOf_13 : decode cX7_heardOf 13 = .ok (.iconst 0, 1) := by decide +kernel
theorem dX7_heardOf_14 : decode cX7_heardOf 14 = .ok (.istore_n 2, 1) := by decide +kernel
theorem dX7_heardOf_15 : decode cX7_heardOf 15 = .ok (.iconst 0, 1) := by decide +kernel
theorem dX7_heardOf_16 : decode cX7_heardOf 16 = .ok (.istore_n 3, 1) := by decide +kernel
theorem dX7_heardOf_17 : decode cX7_heardOf 17 = .ok (.iload_n 3, 1) := by decide +kernel
theorem dX7_heardOf_18 : decode cX7_heardOf 18 = .ok (.aload_n 0, 1) := by decide +kernel
theorem dX7_heardOf_19 : decode cX7_heardOf 19 = .ok (.getfield 7, 3) := by decide +kernel
theorem dX7_heardOf_22 : decode cX7_heardOf 22 = .ok (.bipush 17, 2) := by decide +kernel
theorem dX7_heardOf_24 : decode cX7_heardOf 24 = .ok (.iaload, 1) := by decide +kernel
theorem dX7_heardOf_25 : decode cX7_heardOf 25 = .ok (.if_icmp .ge 25, 3) := by decide +kernel
theorem dX7_heardOf_28 : decode cX7_heardOf 28 = .ok (.iload_n 2, 1) := by decide +kernel
theorem dX7_heardOf_29 : decode cX7_heardOf 29 = .ok (.aload_n 0, 1) := by decide +kernel
theorem dX7_heardOf_30 : decode cX7_heardOf 30 = .ok (.getfield 7, 3) := by decide +kernel
theorem dX7_heardOf_33 : decode cX7_heardOf 33 = .ok (.bipush 58, 2) := by decide +kernel
theorem dX7_heardOf_35 : decode cX7_heardOf 35 = .ok (.iload_n 3, 1) := by decide +kernel
theorem dX7_heardOf_36 : decode cX7_heardOf 36 = .ok (.iadd, 1) := by decide +kernel
theorem dX7_heardOf_37 : decode cX7_heardOf 37 = .ok (.iaload, 1) := by decide +kernel
theorem dX7_heardOf_38 : decode cX7_heardOf 38 = .ok (.iload_n 1, 1) := by decide +kernel
theorem dX7_heardOf_39 : decode cX7_heardOf 39 = .ok (.ishr, 1) := by decide +kernel
theorem dX7_heardOf_40 : decode cX7_heardOf 40 = .ok (.iconst 1, 1) := by decide +kernel
theorem dX7_heardOf_41 : decode cX7_heardOf 41 = .ok (.iand, 1) := by decide +kernel
theorem dX7_heardOf_42 : decode cX7_heardOf 42 = .ok (.iadd, 1) := by decide +kernel
theorem dX7_heardOf_43 : decode cX7_heardOf 43 = .ok (.istore_n 2, 1) := by decide +kernel
theorem dX7_heardOf_44 : decode cX7_heardOf 44 = .ok (.iinc 3 1, 3) := by decide +kernel
theorem dX7_heardOf_47 : decode cX7_heardOf 47 = .ok (.goto (-30), 3) := by decide +kernel
theorem dX7_heardOf_50 : decode cX7_heardOf 50 = .ok (.iload_n 2, 1) := by decide +kernel
theorem dX7_heardOf_51 : decode cX7_heardOf 51 = .ok (.ireturn, 1) := by decide +kernel
set_option maxRecDepth 20000 in
theorem ggX7_undo_X7_no : GoodIn wsX7_undo wsX7_no := goodIn_r _ [6, 7, 8, 9, 5, 10, 11, 12, 13, 14, 15, 16, 17, 18, 19, 20, 21, 22, 23, 24, 25, 26, 27, 28, 29, 30] (by decide +kernel) (by decide +kernel)
set_option maxRecDepth 20000 in
theorem gX7_undo_X7_no : GoodIn wsX7_undo (wsV RX7 198 RX7 yX7_no wsX7_no) := goodIn_app (goodIn_of _ (by decide +kernel)) ggX7_undo_X7_no
theorem dX7_undo_0 : decode cX7_undo 0 = .ok (.aload_n 0, 1) := by decide +kernel
theorem dX7_undo_1 : decode cX7_undo 1 = .ok (.getfield 7, 3) := by decide +kernel
theorem dX7_undo_4 : decode cX7_undo 4 = .ok (.bipush 17, 2) := by decide +kernel
theorem dX7_undo_6 : decode cX7_undo 6 = .ok (.iaload, 1) := by decide +kernel
theorem dX7_undo_7 : decode cX7_undo 7 = .ok (.ifCond .ne 8, 3) := by decide +kernel
theorem dX7_undo_10 : decode cX7_undo 10 = .ok (.aload_n 0, 1) := by decide +kernel
theorem dX7_undo_11 : decode cX7_undo 11 = .ok (.invokevirtual 198, 3) := by decide +kernel
theorem dX7_undo_14 : decode cX7_undo 14 = .ok (.ireturn, 1) := by decide +kernel
theorem dX7_undo_15 : decode cX7_undo 15 = .ok (.aload_n 0, 1) := by decide +kernel
theorem dX7_undo_16 : decode cX7_undo 16 = .ok (.getfield 7, 3) := by decide +kernel
theorem dX7_undo_19 : decode cX7_undo 19 = .ok (.bipush 17, 2) := by decide +kernel
theorem dX7_undo_21 : decode cX7_undo 21 = .ok (.dup2, 1) := by decide +kernel
theorem dX7_undo_22 : decode cX7_undo 22 = .ok (.iaload, 1) := by decide +kernel
theorem dX7_undo_23 : decode cX7_undo 23 = .ok (.iconst 1, 1) := by decide +kernel
theorem dX7_undo_24 : decode cX7_undo 24 = .ok (.isub, 1) := by decide +kernel
theorem dX7_undo_25 : decode cX7_undo 25 = .ok (.iastore, 1) := by decide +kernel
theorem dX7_undo_26 : decode cX7_undo 26 = .ok (.aload_n 0, 1) := by decide +kernel
theorem dX7_undo_27 : decode cX7_undo 27 = .ok (.getfield 7, 3) := by decide +kernel
theorem dX7_undo_30 : decode cX7_undo 30 = .ok (.bipush 17, 2) := by decide +kernel
theorem dX7_undo_32 : decode cX7_undo 32 = .ok (.iaload, 1) := by decide +kernel
theorem dX7_undo_33 : decode cX7_undo 33 = .ok (.ireturn, 1) := by decide +kernel
set_option maxRecDepth 20000 in
theorem ggX7_windOf_X7_of : GoodIn wsX7_windOf wsX7_of := goodIn_r _ [5, 6, 11, 12, 13, 14, 15, 16, 17, 18, 19, 20, 21, 22, 23, 24, 25, 26, 27, 28] (by decide +kernel) (by decide +kernel)
set_option maxRecDepth 20000 in
theorem gX7_windOf_X7_of : GoodIn wsX7_windOf (wsV RX7 121 RX7 yX7_of wsX7_of) := goodIn_app (goodIn_of _ (by decide +kernel)) ggX7_windOf_X7_of
set_option maxRecDepth 20000 in
theorem ggX7_windOf_X7_upTo : GoodIn wsX7_windOf wsX7_upTo := goodIn_r _ [10, 6, 11, 12, 13, 14, 15, 16, 17, 18, 19, 20, 21, 22, 23, 24, 25, 26, 27, 28] (by decide +kernel) (by decide +kernel)
set_option maxRecDepth 20000 in
theorem gX7_windOf_X7_upTo : GoodIn wsX7_windOf (wsV RX7 105 RX7 yX7_upTo wsX7_upTo) := goodIn_app (goodIn_of _ (by decide +kernel)) ggX7_windOf_X7_upTo
theorem dX7_windOf_0 : decode cX7_windOf 0 = .ok (.iconst (-1), 1) := by decide +kernel
theorem dX7_windOf_1 : decode cX7_windOf 1 = .ok (.istore_n 3, 1) := by decide +kernel
theorem dX7_windOf_2 : decode cX7_windOf 2 = .ok (.iconst 0, 1) := by decide +kernel
theorem dX7_windOf_3 : decode cX7_windOf 3 = .ok (.istore 4, 2) := by decide +kernel
theorem dX7_windOf_5 : decode cX7_windOf 5 = .ok (.iload 4, 2) := by decide +kernel
theorem dX7_windOf_7 : decode cX7_windOf 7 = .ok (.bipush 6, 2) := by decide +kernel
theorem dX7_windOf_9 : decode cX7_windOf 9 = .ok (.if_icmp .ge 66, 3) := by decide +kernel
theorem dX7_windOf_12 : decode cX7_windOf 12 = .ok (.aload_n 0, 1) := by decide +kernel
theorem dX7_windOf_13 : decode cX7_windOf 13 = .ok (.iload 4, 2) := by decide +kernel
theorem dX7_windOf_15 : decode cX7_windOf 15 = .ok (.aload_n 0, 1) := by decide +kernel
theorem dX7_windOf_16 : decode cX7_windOf 16 = .ok (.iload_n 1, 1) := by decide +kernel
theorem dX7_windOf_17 : decode cX7_windOf 17 = .ok (.iconst 2, 1) := by decide +kernel
theorem dX7_windOf_18 : decode cX7_windOf 18 = .ok (.invokevirtual 121, 3) := by decide +kernel
theorem dX7_windOf_21 : decode cX7_windOf 21 = .ok (.invokevirtual 105, 3) := by decide +kernel
theorem dX7_windOf_24 : decode cX7_windOf 24 = .ok (.istore 5, 2) := by decide +kernel
theorem dX7_windOf_26 : decode cX7_windOf 26 = .ok (.aload_n 0, 1) := by decide +kernel
theorem dX7_windOf_27 : decode cX7_windOf 27 = .ok (.iload 4, 2) := by decide +kernel
theorem dX7_windOf_29 : decode cX7_windOf 29 = .ok (.aload_n 0, 1) := by decide +kernel
theorem dX7_windOf_30 : decode cX7_windOf 30 = .ok (.iload_n 2, 1) := by decide +kernel
theorem dX7_windOf_31 : decode cX7_windOf 31 = .ok (.iconst 2, 1) := by decide +kernel
theorem dX7_windOf_32 : decode cX7_windOf 32 = .ok (.invokevirtual 121, 3) := by decide +kernel
theorem dX7_windOf_35 : decode cX7_windOf 35 = .ok (.invokevirtual 105, 3) := by decide +kernel
theorem dX7_windOf_38 : decode cX7_windOf 38 = .ok (.istore 6, 2) := by decide +kernel
theorem dX7_windOf_40 : decode cX7_windOf 40 = .ok (.iload 5, 2) := by decide +kernel
theorem dX7_windOf_42 : decode cX7_windOf 42 = .ok (.iload 6, 2) := by decide +kernel
theorem dX7_windOf_44 : decode cX7_windOf 44 = .ok (.if_icmp .ge 8, 3) := by decide +kernel
theorem dX7_windOf_47 : decode cX7_windOf 47 = .ok (.iload 5, 2) := by decide +kernel
theorem dX7_windOf_49 : decode cX7_windOf 49 = .ok (.goto 5, 3) := by decide +kernel
theorem dX7_windOf_52 : decode cX7_windOf 52 = .ok (.iload 6, 2) := by decide +kernel
theorem dX7_windOf_54 : decode cX7_windOf 54 = .ok (.istore 7, 2) := by decide +kernel
theorem dX7_windOf_56 : decode cX7_windOf 56 = .ok (.iload 7, 2) := by decide +kernel
theorem dX7_windOf_58 : decode cX7_windOf 58 = .ok (.iload_n 3, 1) := by decide +kernel
theorem dX7_windOf_59 : decode cX7_windOf 59 = .ok (.if_icmp .le 8, 3) := by decide +kernel
theorem dX7_windOf_62 : decode cX7_windOf 62 = .ok (.iload 7, 2) := by decide +kernel
theorem dX7_windOf_64 : decode cX7_windOf 64 = .ok (.goto 4, 3) := by decide +kernel
theorem dX7_windOf_67 : decode cX7_windOf 67 = .ok (.iload_n 3, 1) := by decide +kernel
theorem dX7_windOf_68 : decode cX7_windOf 68 = .ok (.istore_n 3, 1) := by decide +kernel
theorem dX7_windOf_69 : decode cX7_windOf 69 = .ok (.iinc 4 1, 3) := by decide +kernel
theorem dX7_windOf_72 : decode cX7_windOf 72 = .ok (.goto (-67), 3) := by decide +kernel
theorem dX7_windOf_75 : decode cX7_windOf 75 = .ok (.iload_n 3, 1) := by decide +kernel
theorem dX7_windOf_76 : decode cX7_windOf 76 = .ok (.ireturn, 1) := by decide +kernel
set_option maxRecDepth 20000 in
theorem ggX7_takenBy_X7_windOf : GoodIn wsX7_takenBy wsX7_windOf := goodIn_r _ [5, 6, 7, 8, 4, 9, 10, 11, 12, 13, 14, 33, 34, 35, 36, 37, 38, 39, 40, 41, 42, 43, 44, 45, 46, 47, 48, 49, 50] (by decide +kernel) (by decide +kernel)
set_option maxRecDepth 20000 in
theorem gX7_takenBy_X7_windOf : GoodIn wsX7_takenBy (wsV RX7 201 RX7 yX7_windOf wsX7_windOf) := goodIn_app (goodIn_of _ (by decide +kernel)) ggX7_takenBy_X7_windOf
set_option maxRecDepth 20000 in
theorem ggX7_takenBy_X7_of : GoodIn wsX7_takenBy wsX7_of := goodIn_r _ [9, 10, 33, 34, 35, 36, 37, 38, 39, 40, 41, 42, 43, 44, 45, 46, 47, 48, 49, 50] (by decide +kernel) (by decide +kernel)
set_option maxRecDepth 20000 in
theorem gX7_takenBy_X7_of : GoodIn wsX7_takenBy (wsV RX7 121 RX7 yX7_of wsX7_of) := goodIn_app (goodIn_of _ (by decide +kernel)) ggX7_takenBy_X7_of
set_option maxRecDepth 20000 in
theorem ggX7_takenBy_X7_turns : GoodIn wsX7_takenBy wsX7_turns := goodIn_r _ [17, 18, 19, 4, 20, 21, 22, 23, 24, 25, 26, 27, 28, 29, 30, 31, 32] (by decide +kernel) (by decide +kernel)
set_option maxRecDepth 20000 in
theorem gX7_takenBy_X7_turns : GoodIn wsX7_takenBy (va_wsS RX7 191 yX7_turns wsX7_turns) := goodIn_app (goodIn_of _ (by decide +kernel)) ggX7_takenBy_X7_turns
theorem dX7_takenBy_0 : decode cX7_takenBy 0 = .ok (.iconst 0, 1) := by decide +kernel
theorem dX7_takenBy_1 : decode cX7_takenBy 1 = .ok (.istore 5, 2) := by decide +kernel
theorem dX7_takenBy_3 : decode cX7_takenBy 3 = .ok (.aload_n 0, 1) := by decide +kernel
theorem dX7_takenBy_4 : decode cX7_takenBy 4 = .ok (.iload_n 1, 1) := by decide +kernel
theorem dX7_takenBy_5 : decode cX7_takenBy 5 = .ok (.iload_n 3, 1) := by decide +kernel
theorem dX7_takenBy_6 : decode cX7_takenBy 6 = .ok (.invokevirtual 201, 3) := by decide +kernel
theorem dX7_takenBy_9 : decode cX7_takenBy 9 = .ok (.istore 6, 2) := by decide +kernel
theorem dX7_takenBy_11 : decode cX7_takenBy 11 = .ok (.iconst 0, 1) := by decide +kernel
theorem dX7_takenBy_12 : decode cX7_takenBy 12 = .ok (.istore 7, 2) := by decide +kernel
theorem dX7_takenBy_14 : decode cX7_takenBy 14 = .ok (.iload 7, 2) := by decide +kernel
theorem dX7_takenBy_16 : decode cX7_takenBy 16 = .ok (.iload 6, 2) := by decide +kernel
theorem dX7_takenBy_18 : decode cX7_takenBy 18 = .ok (.if_icmp .gt 38, 3) := by decide +kernel
theorem dX7_takenBy_21 : decode cX7_takenBy 21 = .ok (.iload 5, 2) := by decide +kernel
theorem dX7_takenBy_23 : decode cX7_takenBy 23 = .ok (.ifCond .ne 20, 3) := by decide +kernel
theorem dX7_takenBy_26 : decode cX7_takenBy 26 = .ok (.aload_n 0, 1) := by decide +kernel
theorem dX7_takenBy_27 : decode cX7_takenBy 27 = .ok (.iload_n 3, 1) := by decide +kernel
theorem dX7_takenBy_28 : decode cX7_takenBy 28 = .ok (.iconst 0, 1) := by decide +kernel
theorem dX7_takenBy_29 : decode cX7_takenBy 29 = .ok (.invokevirtual 121, 3) := by decide +kernel
theorem dX7_takenBy_32 : decode cX7_takenBy 32 = .ok (.iload 4, 2) := by decide +kernel
theorem dX7_takenBy_34 : decode cX7_takenBy 34 = .ok (.iload_n 2, 1) := by decide +kernel
theorem dX7_takenBy_35 : decode cX7_takenBy 35 = .ok (.iload 7, 2) := by decide +kernel
theorem dX7_takenBy_37 : decode cX7_takenBy 37 = .ok (.invokestatic 191, 3) := by decide +kernel
theorem dX7_takenBy_40 : decode cX7_takenBy 40 = .ok (.ifCond .eq 7, 3) := by decide +kernel
theorem dX7_takenBy_43 : decode cX7_takenBy 43 = .ok (.iconst 1, 1) := by decide +kernel
theorem dX7_takenBy_44 : decode cX7_takenBy 44 = .ok (.goto 4, 3) := by decide +kernel
theorem dX7_takenBy_47 : decode cX7_takenBy 47 = .ok (.iconst 0, 1) := by decide +kernel
theorem dX7_takenBy_48 : decode cX7_takenBy 48 = .ok (.istore 5, 2) := by decide +kernel
theorem dX7_takenBy_50 : decode cX7_takenBy 50 = .ok (.iinc 7 1, 3) := by decide +kernel
theorem dX7_takenBy_53 : decode cX7_takenBy 53 = .ok (.goto (-39), 3) := by decide +kernel
theorem dX7_takenBy_56 : decode cX7_takenBy 56 = .ok (.iload 5, 2) := by decide +kernel
theorem dX7_takenBy_58 : decode cX7_takenBy 58 = .ok (.ireturn, 1) := by decide +kernel
set_option maxRecDepth 20000 in
theorem ggX7_clashes_X7_takenBy : GoodIn wsX7_clashes wsX7_takenBy := goodIn_r _ [5, 6, 7, 8, 4, 9, 10, 11, 12, 13, 14, 15, 16, 17, 18, 19, 20, 21, 22, 23, 24, 25, 26, 27, 28, 29, 30, 31, 32, 33, 34, 35, 36, 37, 38, 39, 40, 41, 42, 43, 44, 45, 46, 47, 48, 49, 50, 51, 52, 53, 54] (by decide +kernel) (by decide +kernel)
set_option maxRecDepth 20000 in
theorem gX7_clashes_X7_takenBy : GoodIn wsX7_clashes (wsV RX7 204 RX7 yX7_takenBy wsX7_takenBy) := goodIn_app (goodIn_of _ (by decide +kernel)) ggX7_clashes_X7_takenBy
theorem dX7_clashes_0 : decode cX7_clashes 0 = .ok (.aload_n 0, 1) := by decide +kernel
theorem dX7_clashes_1 : decode cX7_clashes 1 = .ok (.iload_n 1, 1) := by decide +kernel
theorem dX7_clashes_2 : decode cX7_clashes 2 = .ok (.iload_n 2, 1) := by decide +kernel
theorem dX7_clashes_3 : decode cX7_clashes 3 = .ok (.iload_n 3, 1) := by decide +kernel
theorem dX7_clashes_4 : decode cX7_clashes 4 = .ok (.iload 4, 2) := by decide +kernel
theorem dX7_clashes_6 : decode cX7_clashes 6 = .ok (.invokevirtual 204, 3) := by decide +kernel
theorem dX7_clashes_9 : decode cX7_clashes 9 = .ok (.ifCond .ne 15, 3) := by decide +kernel
theorem dX7_clashes_12 : decode cX7_clashes 12 = .ok (.aload_n 0, 1) := by decide +kernel
theorem dX7_clashes_13 : decode cX7_clashes 13 = .ok (.iload_n 3, 1) := by decide +kernel
theorem dX7_clashes_14 : decode cX7_clashes 14 = .ok (.iload 4, 2) := by decide +kernel
theorem dX7_clashes_16 : decode cX7_clashes 16 = .ok (.iload_n 1, 1) := by decide +kernel
theorem dX7_clashes_17 : decode cX7_clashes 17 = .ok (.iload_n 2, 1) := by decide +kernel
theorem dX7_clashes_18 : decode cX7_clashes 18 = .ok (.invokevirtual 204, 3) := by decide +kernel
theorem dX7_clashes_21 : decode cX7_clashes 21 = .ok (.ifCond .eq 7, 3) := by decide +kernel
theorem dX7_clashes_24 : decode cX7_clashes 24 = .ok (.iconst 1, 1) := by decide +kernel
theorem dX7_clashes_25 : decode cX7_clashes 25 = .ok (.goto 4, 3) := by decide +kernel
theorem dX7_clashes_28 : decode cX7_clashes 28 = .ok (.iconst 0, 1) := by decide +kernel
theorem dX7_clashes_29 : decode cX7_clashes 29 = .ok (.ireturn, 1) := by decide +kernel
set_option maxRecDepth 20000 in
theorem ggX7_taken_X7_isOne : GoodIn wsX7_taken wsX7_isOne := goodIn_r _ [5, 6, 7, 8, 4, 9, 54, 55, 56, 57, 58, 59, 60, 61, 62, 63, 64, 65, 66, 67, 68, 69, 70, 71] (by decide +kernel) (by decide +kernel)
set_option maxRecDepth 20000 in
theorem gX7_taken_X7_isOne : GoodIn wsX7_taken (wsV RX7 118 RX7 yX7_isOne wsX7_isOne) := goodIn_app (goodIn_of _ (by decide +kernel)) ggX7_taken_X7_isOne
set_option maxRecDepth 20000 in
theorem ggX7_taken_X7_bad : GoodIn wsX7_taken wsX7_bad := goodIn_r _ [13, 14, 15, 16, 4, 17, 18, 19, 54, 55, 56, 57, 58, 59, 60, 61, 62, 63, 64, 65, 66, 67, 68, 69, 70, 71] (by decide +kernel) (by decide +kernel)
set_option maxRecDepth 20000 in
theorem gX7_taken_X7_bad : GoodIn wsX7_taken (wsV RX7 111 RX7 yX7_bad wsX7_bad) := goodIn_app (goodIn_of _ (by decide +kernel)) ggX7_taken_X7_bad
set_option maxRecDepth 20000 in
theorem ggX7_taken_X7_of : GoodIn wsX7_taken wsX7_of := goodIn_r _ [23, 6, 54, 55, 56, 57, 58, 59, 60, 61, 62, 63, 64, 65, 66, 67, 68, 69, 70, 71] (by decide +kernel) (by decide +kernel)
set_option maxRecDepth 20000 in
theorem gX7_taken_X7_of : GoodIn wsX7_taken (wsV RX7 121 RX7 yX7_of wsX7_of) := goodIn_app (goodIn_of _ (by decide +kernel)) ggX7_taken_X7_of
set_option maxRecDepth 20000 in
theorem ggX7_taken_X7_takenBy : GoodIn wsX7_taken wsX7_takenBy := goodIn_r _ [27, 28, 29, 30, 4, 31, 20, 21, 22, 23, 6, 32, 33, 34, 35, 36, 37, 38, 39, 40, 41, 42, 43, 44, 45, 46, 47, 48, 49, 50, 51, 52, 53, 54, 55, 56, 57, 58, 59, 60, 61, 62, 63, 64, 65, 66, 67, 68, 69, 70, 71] (by decide +kernel) (by decide +kernel)
set_option maxRecDepth 20000 in
theorem gX7_taken_X7_takenBy : GoodIn wsX7_taken (wsV RX7 204 RX7 yX7_takenBy wsX7_takenBy) := goodIn_app (goodIn_of _ (by decide +kernel)) ggX7_taken_X7_takenBy
theorem dX7_taken_0 : decode cX7_taken 0 = .ok (.aload_n 0, 1) := by decide +kernel
theorem dX7_taken_1 : decode cX7_taken 1 = .ok (.iload_n 1, 1) := by decide +kernel
theorem dX7_taken_2 : decode cX7_taken 2 = .ok (.invokevirtual 118, 3) := by decide +kernel
theorem dX7_taken_5 : decode cX7_taken 5 = .ok (.ifCond .eq 16, 3) := by decide +kernel
theorem dX7_taken_8 : decode cX7_taken 8 = .ok (.aload_n 0, 1) := by decide +kernel
theorem dX7_taken_9 : decode cX7_taken 9 = .ok (.iload_n 2, 1) := by decide +kernel
theorem dX7_taken_10 : decode cX7_taken 10 = .ok (.invokevirtual 118, 3) := by decide +kernel
theorem dX7_taken_13 : decode cX7_taken 13 = .ok (.ifCond .eq 8, 3) := by decide +kernel
theorem dX7_taken_16 : decode cX7_taken 16 = .ok (.iload_n 1, 1) := by decide +kernel
theorem dX7_taken_17 : decode cX7_taken 17 = .ok (.iload_n 2, 1) := by decide +kernel
theorem dX7_taken_18 : decode cX7_taken 18 = .ok (.if_icmp .ne 8, 3) := by decide +kernel
theorem dX7_taken_21 : decode cX7_taken 21 = .ok (.aload_n 0, 1) := by decide +kernel
theorem dX7_taken_22 : decode cX7_taken 22 = .ok (.invokevirtual 111, 3) := by decide +kernel
theorem dX7_taken_25 : decode cX7_taken 25 = .ok (.ireturn, 1) := by decide +kernel
theorem dX7_taken_26 : decode cX7_taken 26 = .ok (.aload_n 0, 1) := by decide +kernel
theorem dX7_taken_27 : decode cX7_taken 27 = .ok (.iload_n 1, 1) := by decide +kernel
theorem dX7_taken_28 : decode cX7_taken 28 = .ok (.aload_n 0, 1) := by decide +kernel
theorem dX7_taken_29 : decode cX7_taken 29 = .ok (.iload_n 1, 1) := by decide +kernel
theorem dX7_taken_30 : decode cX7_taken 30 = .ok (.iconst 1, 1) := by decide +kernel
theorem dX7_taken_31 : decode cX7_taken 31 = .ok (.invokevirtual 121, 3) := by decide +kernel
theorem dX7_taken_34 : decode cX7_taken 34 = .ok (.iload_n 2, 1) := by decide +kernel
theorem dX7_taken_35 : decode cX7_taken 35 = .ok (.aload_n 0, 1) := by decide +kernel
theorem dX7_taken_36 : decode cX7_taken 36 = .ok (.iload_n 2, 1) := by decide +kernel
theorem dX7_taken_37 : decode cX7_taken 37 = .ok (.iconst 1, 1) := by decide +kernel
theorem dX7_taken_38 : decode cX7_taken 38 = .ok (.invokevirtual 121, 3) := by decide +kernel
theorem dX7_taken_41 : decode cX7_taken 41 = .ok (.invokevirtual 204, 3) := by decide +kernel
theorem dX7_taken_44 : decode cX7_taken 44 = .ok (.ifCond .eq 7, 3) := by decide +kernel
theorem dX7_taken_47 : decode cX7_taken 47 = .ok (.iconst 1, 1) := by decide +kernel
theorem dX7_taken_48 : decode cX7_taken 48 = .ok (.goto 4, 3) := by decide +kernel
theorem dX7_taken_51 : decode cX7_taken 51 = .ok (.iconst 0, 1) := by decide +kernel
theorem dX7_taken_52 : decode cX7_taken 52 = .ok (.ireturn, 1) := by decide +kernel
set_option maxRecDepth 20000 in
theorem ggX7_clash_X7_in : GoodIn wsX7_clash wsX7_in := goodIn_r _ [5] (by decide +kernel) (by decide +kernel)
set_option maxRecDepth 20000 in
theorem gX7_clash_X7_in : GoodIn wsX7_clash (va_wsS RX7 57 yX7_in wsX7_in) := goodIn_app (goodIn_of _ (by decide +kernel)) ggX7_clash_X7_in
set_option maxRecDepth 20000 in
theorem ggX7_clash_X7_bad : GoodIn wsX7_clash wsX7_bad := goodIn_r _ [9, 10, 11, 12, 4, 13, 14, 15, 58, 59, 60, 61, 62, 63, 64, 65, 66, 67, 68, 69, 70, 71, 72, 73, 74, 75] (by decide +kernel) (by decide +kernel)
set_option maxRecDepth 20000 in
theorem gX7_clash_X7_bad : GoodIn wsX7_clash (wsV RX7 111 RX7 yX7_bad wsX7_bad) := goodIn_app (goodIn_of _ (by decide +kernel)) ggX7_clash_X7_bad
set_option maxRecDepth 20000 in
theorem ggX7_clash_X7_of : GoodIn wsX7_clash wsX7_of := goodIn_r _ [19, 1, 58, 59, 60, 61, 62, 63, 64, 65, 66, 67, 68, 69, 70, 71, 72, 73, 74, 75] (by decide +kernel) (by decide +kernel)
set_option maxRecDepth 20000 in
theorem gX7_clash_X7_of : GoodIn wsX7_clash (wsV RX7 121 RX7 yX7_of wsX7_of) := goodIn_app (goodIn_of _ (by decide +kernel)) ggX7_clash_X7_of
set_option maxRecDepth 20000 in
theorem ggX7_clash_X7_clashes : GoodIn wsX7_clash wsX7_clashes := goodIn_r _ [23, 24, 25, 26, 4, 27, 28, 29, 30, 31, 16, 17, 18, 19, 1, 32, 33, 34, 35, 36, 37, 38, 39, 40, 41, 42, 43, 44, 45, 46, 47, 48, 49, 50, 51, 52, 53, 58, 59, 60, 61, 62, 63, 64, 65, 66, 67, 68, 69, 70, 71, 72, 73, 74, 75] (by decide +kernel) (by decide +kernel)
set_option maxRecDepth 20000 in
theorem gX7_clash_X7_clashes : GoodIn wsX7_clash (wsV RX7 207 RX7 yX7_clashes wsX7_clashes) := goodIn_app (goodIn_of _ (by decide +kernel)) ggX7_clash_X7_clashes
set_option maxRecDepth 20000 in
theorem ggX7_clash_X7_no : GoodIn wsX7_clash wsX7_no := goodIn_r _ [57, 10, 11, 12, 4, 13, 14, 15, 58, 59, 60, 61, 62, 63, 64, 65, 66, 67, 68, 69, 70, 71, 72, 73, 74, 75] (by decide +kernel) (by decide +kernel)
set_option maxRecDepth 20000 in
theorem gX7_clash_X7_no : GoodIn wsX7_clash (wsV RX7 198 RX7 yX7_no wsX7_no) := goodIn_app (goodIn_of _ (by decide +kernel)) ggX7_clash_X7_no
theorem dX7_clash_0 : decode cX7_clash 0 = .ok (.iload_n 1, 1) := by decide +kernel
theorem dX7_clash_1 : decode cX7_clash 1 = .ok (.i2l, 1) := by decide +kernel
theorem dX7_clash_2 : decode cX7_clash 2 = .ok (.lconst 0, 1) := by decide +kernel
theorem dX7_clash_3 : decode cX7_clash 3 = .ok (.lconst 1, 1) := by decide +kernel
theorem dX7_clash_4 : decode cX7_clash 4 = .ok (.invokestatic 57, 3) := by decide +kernel
theorem dX7_clash_7 : decode cX7_clash 7 = .ok (.ifCond .ne 8, 3) := by decide +kernel
theorem dX7_clash_10 : decode cX7_clash 10 = .ok (.aload_n 0, 1) := by decide +kernel
theorem dX7_clash_11 : decode cX7_clash 11 = .ok (.invokevirtual 111, 3) := by decide +kernel
theorem dX7_clash_14 : decode cX7_clash 14 = .ok (.ireturn, 1) := by decide +kernel
theorem dX7_clash_15 : decode cX7_clash 15 = .ok (.iconst 0, 1) := by decide +kernel
theorem dX7_clash_16 : decode cX7_clash 16 = .ok (.istore_n 2, 1) := by decide +kernel
theorem dX7_clash_17 : decode cX7_clash 17 = .ok (.iconst (-1), 1) := by decide +kernel
theorem dX7_clash_18 : decode cX7_clash 18 = .ok (.istore_n 3, 1) := by decide +kernel
theorem dX7_clash_19 : decode cX7_clash 19 = .ok (.iconst 0, 1) := by decide +kernel
theorem dX7_clash_20 : decode cX7_clash 20 = .ok (.istore 4, 2) := by decide +kernel
theorem dX7_clash_22 : decode cX7_clash 22 = .ok (.iload 4, 2) := by decide +kernel
theorem dX7_clash_24 : decode cX7_clash 24 = .ok (.aload_n 0, 1) := by decide +kernel
theorem dX7_clash_25 : decode cX7_clash 25 = .ok (.getfield 7, 3) := by decide +kernel
theorem dX7_clash_28 : decode cX7_clash 28 = .ok (.bipush 15, 2) := by decide +kernel
theorem dX7_clash_30 : decode cX7_clash 30 = .ok (.iaload, 1) := by decide +kernel
theorem dX7_clash_31 : decode cX7_clash 31 = .ok (.if_icmp .ge 79, 3) := by decide +kernel
theorem dX7_clash_34 : decode cX7_clash 34 = .ok (.iload 4, 2) := by decide +kernel
theorem dX7_clash_36 : decode cX7_clash 36 = .ok (.iconst 1, 1) := by decide +kernel
theorem dX7_clash_37 : decode cX7_clash 37 = .ok (.iadd, 1) := by decide +kernel
theorem dX7_clash_38 : decode cX7_clash 38 = .ok (.istore 5, 2) := by decide +kernel
theorem dX7_clash_40 : decode cX7_clash 40 = .ok (.iload 5, 2) := by decide +kernel
theorem dX7_clash_42 : decode cX7_clash 42 = .ok (.aload_n 0, 1) := by decide +kernel
theorem dX7_clash_43 : decode cX7_clash 43 = .ok (.getfield 7, 3) := by decide +kernel
theorem dX7_clash_46 : decode cX7_clash 46 = .ok (.bipush 15, 2) := by decide +kernel
theorem dX7_clash_48 : decode cX7_clash 48 = .ok (.iaload, 1) := by decide +kernel
theorem dX7_clash_49 : decode cX7_clash 49 = .ok (.if_icmp .ge 55, 3) := by decide +kernel
theorem dX7_clash_52 : decode cX7_clash 52 = .ok (.aload_n 0, 1) := by decide +kernel
theorem dX7_clash_53 : decode cX7_clash 53 = .ok (.iload 4, 2) := by decide +kernel
theorem dX7_clash_55 : decode cX7_clash 55 = .ok (.aload_n 0, 1) := by decide +kernel
theorem dX7_clash_56 : decode cX7_clash 56 = .ok (.iload 4, 2) := by decide +kernel
theorem dX7_clash_58 : decode cX7_clash 58 = .ok (.iconst 1, 1) := by decide +kernel
theorem dX7_clash_59 : decode cX7_clash 59 = .ok (.invokevirtual 121, 3) := by decide +kernel
theorem dX7_clash_62 : decode cX7_clash 62 = .ok (.iload 5, 2) := by decide +kernel
theorem dX7_clash_64 : decode cX7_clash 64 = .ok (.aload_n 0, 1) := by decide +kernel
theorem dX7_clash_65 : decode cX7_clash 65 = .ok (.iload 5, 2) := by decide +kernel
theorem dX7_clash_67 : decode cX7_clash 67 = .ok (.iconst 1, 1) := by decide +kernel
theorem dX7_clash_68 : decode cX7_clash 68 = .ok (.invokevirtual 121, 3) := by decide +kernel
theorem dX7_clash_71 : decode cX7_clash 71 = .ok (.invokevirtual 207, 3) := by decide +kernel
theorem dX7_clash_74 : decode cX7_clash 74 = .ok (.ifCond .eq 24, 3) := by decide +kernel
theorem dX7_clash_77 : decode cX7_clash 77 = .ok (.iinc 2 1, 3) := by decide +kernel
theorem dX7_clash_80 : decode cX7_clash 80 = .ok (.iload_n 3, 1) := by decide +kernel
theorem dX7_clash_81 : decode cX7_clash 81 = .ok (.iconst (-1), 1) := by decide +kernel
theorem dX7_clash_82 : decode cX7_clash 82 = .ok (.if_icmp .ne 14, 3) := by decide +kernel
theorem dX7_clash_85 : decode cX7_clash 85 = .ok (.bipush 10, 2) := by decide +kernel
theorem dX7_clash_87 : decode cX7_clash 87 = .ok (.iload 4, 2) := by decide +kernel
theorem dX7_clash_89 : decode cX7_clash 89 = .ok (.imul, 1) := by decide +kernel
theorem dX7_clash_90 : decode cX7_clash 90 = .ok (.iload 5, 2) := by decide +kernel
theorem dX7_clash_92 : decode cX7_clash 92 = .ok (.iadd, 1) := by decide +kernel
theorem dX7_clash_93 : decode cX7_clash 93 = .ok (.goto 4, 3) := by decide +kernel
theorem dX7_clash_96 : decode cX7_clash 96 = .ok (.iload_n 3, 1) := by decide +kernel
theorem dX7_clash_97 : decode cX7_clash 97 = .ok (.istore_n 3, 1) := by decide +kernel
theorem dX7_clash_98 : decode cX7_clash 98 = .ok (.iinc 5 1, 3) := by decide +kernel
theorem dX7_clash_101 : decode cX7_clash 101 = .ok (.goto (-61), 3) := by decide +kernel
theorem dX7_clash_104 : decode cX7_clash 104 = .ok (.iinc 4 1, 3) := by decide +kernel
theorem dX7_clash_107 : decode cX7_clash 107 = .ok (.goto (-85), 3) := by decide +kernel
theorem dX7_clash_110 : decode cX7_clash 110 = .ok (.iload_n 1, 1) := by decide +kernel
theorem dX7_clash_111 : decode cX7_clash 111 = .ok (.ifCond .ne 7, 3) := by decide +kernel
theorem dX7_clash_114 : decode cX7_clash 114 = .ok (.iload_n 2, 1) := by decide +kernel
theorem dX7_clash_115 : decode cX7_clash 115 = .ok (.goto 16, 3) := by decide +kernel
theorem dX7_clash_118 : decode cX7_clash 118 = .ok (.iload_n 3, 1) := by decide +kernel
theorem dX7_clash_119 : decode cX7_clash 119 = .ok (.iconst (-1), 1) := by decide +kernel
theorem dX7_clash_120 : decode cX7_clash 120 = .ok (.if_icmp .ne 10, 3) := by decide +kernel
theorem dX7_clash_123 : decode cX7_clash 123 = .ok (.aload_n 0, 1) := by decide +kernel
theorem dX7_clash_124 : decode cX7_clash 124 = .ok (.invokevirtual 198, 3) := by decide +kernel
theorem dX7_clash_127 : decode cX7_clash 127 = .ok (.goto 4, 3) := by decide +kernel
theorem dX7_clash_130 : decode cX7_clash 130 = .ok (.iload_n 3, 1) := by decide +kernel
theorem dX7_clash_131 : decode cX7_clash 131 = .ok (.ireturn, 1) := by decide +kernel
theorem dX7_bits_0 : decode cX7_bits 0 = .ok (.iconst 0, 1) := by decide +kernel
theorem dX7_bits_1 : decode cX7_bits 1 = .ok (.istore_n 1, 1) := by decide +kernel
theorem dX7_bits_2 : decode cX7_bits 2 = .ok (.iconst 0, 1) := by decide +kernel
theorem dX7_bits_3 : decode cX7_bits 3 = .ok (.istore_n 2, 1) := by decide +kernel
theorem dX7_bits_4 : decode cX7_bits 4 = .ok (.iload_n 2, 1) := by decide +kernel
theorem dX7_bits_5 : decode cX7_bits 5 = .ok (.bipush 7, 2) := by decide +kernel
theorem dX7_bits_7 : decode cX7_bits 7 = .ok (.if_icmp .ge 17, 3) := by decide +kernel
theorem dX7_bits_10 : decode cX7_bits 10 = .ok (.iload_n 1, 1) := by decide +kernel
theorem dX7_bits_11 : decode cX7_bits 11 = .ok (.iload_n 0, 1) := by decide +kernel
theorem dX7_bits_12 : decode cX7_bits 12 = .ok (.iload_n 2, 1) := by decide +kernel
theorem dX7_bits_13 : decode cX7_bits 13 = .ok (.ishr, 1) := by decide +kernel
theorem dX7_bits_14 : decode cX7_bits 14 = .ok (.iconst 1, 1) := by decide +kernel
theorem dX7_bits_15 : decode cX7_bits 15 = .ok (.iand, 1) := by decide +kernel
theorem dX7_bits_16 : decode cX7_bits 16 = .ok (.iadd, 1) := by decide +kernel
theorem dX7_bits_17 : decode cX7_bits 17 = .ok (.istore_n 1, 1) := by decide +kernel
theorem dX7_bits_18 : decode cX7_bits 18 = .ok (.iinc 2 1, 3) := by decide +kernel
theorem dX7_bits_21 : decode cX7_bits 21 = .ok (.goto (-17), 3) := by decide +kernel
theorem dX7_bits_24 : decode cX7_bits 24 = .ok (.iload_n 1, 1) := by decide +kernel
theorem dX7_bits_25 : decode cX7_bits 25 = .ok (.ireturn, 1) := by decide +kernel
set_option maxRecDepth 20000 in
theorem ggX7_alter_X7_bits : GoodIn wsX7_alter wsX7_bits := goodIn_r _ [5] (by decide +kernel) (by decide +kernel)
set_option maxRecDepth 20000 in
theorem gX7_alter_X7_bits : GoodIn wsX7_alter (va_wsS RX7 210 yX7_bits wsX7_bits) := goodIn_app (goodIn_of _ (by decide +kernel)) ggX7_alter_X7_bits
set_option maxRecDepth 20000 in
theorem ggX7_alter_X7_of : GoodIn wsX7_alter wsX7_of := goodIn_r _ [9, 1, 44, 45, 46, 47, 48, 49, 50, 51, 52, 53, 54, 55, 56, 57, 58, 59, 60, 61] (by decide +kernel) (by decide +kernel)
set_option maxRecDepth 20000 in
theorem gX7_alter_X7_of : GoodIn wsX7_alter (wsV RX7 121 RX7 yX7_of wsX7_of) := goodIn_app (goodIn_of _ (by decide +kernel)) ggX7_alter_X7_of
set_option maxRecDepth 20000 in
theorem ggX7_alter_X7_clashes : GoodIn wsX7_alter wsX7_clashes := goodIn_r _ [13, 14, 15, 16, 4, 17, 18, 19, 20, 21, 6, 7, 8, 9, 1, 22, 23, 24, 25, 26, 27, 28, 29, 30, 31, 32, 33, 34, 35, 36, 37, 38, 39, 40, 41, 42, 43, 44, 45, 46, 47, 48, 49, 50, 51, 52, 53, 54, 55, 56, 57, 58, 59, 60, 61] (by decide +kernel) (by decide +kernel)
set_option maxRecDepth 20000 in
theorem gX7_alter_X7_clashes : GoodIn wsX7_alter (wsV RX7 207 RX7 yX7_clashes wsX7_clashes) := goodIn_app (goodIn_of _ (by decide +kernel)) ggX7_alter_X7_clashes
theorem dX7_alter_0 : decode cX7_alter 0 = .ok (.iconst (-1), 1) := by decide +kernel
theorem dX7_alter_1 : decode cX7_alter 1 = .ok (.istore_n 1, 1) := by decide +kernel
theorem dX7_alter_2 : decode cX7_alter 2 = .ok (.iconst 0, 1) := by decide +kernel
theorem dX7_alter_3 : decode cX7_alter 3 = .ok (.istore_n 2, 1) := by decide +kernel
theorem dX7_alter_4 : decode cX7_alter 4 = .ok (.iload_n 2, 1) := by decide +kernel
theorem dX7_alter_5 : decode cX7_alter 5 = .ok (.iconst 1, 1) := by decide +kernel
theorem dX7_alter_6 : decode cX7_alter 6 = .ok (.aload_n 0, 1) := by decide +kernel
theorem dX7_alter_7 : decode cX7_alter 7 = .ok (.getfield 7, 3) := by decide +kernel
theorem dX7_alter_10 : decode cX7_alter 10 = .ok (.bipush 15, 2) := by decide +kernel
theorem dX7_alter_12 : decode cX7_alter 12 = .ok (.iaload, 1) := by decide +kernel
theorem dX7_alter_13 : decode cX7_alter 13 = .ok (.ishl, 1) := by decide +kernel
theorem dX7_alter_14 : decode cX7_alter 14 = .ok (.if_icmp .ge 145, 3) := by decide +kernel
theorem dX7_alter_17 : decode cX7_alter 17 = .ok (.iload_n 1, 1) := by decide +kernel
theorem dX7_alter_18 : decode cX7_alter 18 = .ok (.iconst (-1), 1) := by decide +kernel
theorem dX7_alter_19 : decode cX7_alter 19 = .ok (.if_icmp .eq 14, 3) := by decide +kernel
theorem dX7_alter_22 : decode cX7_alter 22 = .ok (.iload_n 2, 1) := by decide +kernel
theorem dX7_alter_23 : decode cX7_alter 23 = .ok (.invokestatic 210, 3) := by decide +kernel
theorem dX7_alter_26 : decode cX7_alter 26 = .ok (.iload_n 1, 1) := by decide +kernel
theorem dX7_alter_27 : decode cX7_alter 27 = .ok (.invokestatic 210, 3) := by decide +kernel
theorem dX7_alter_30 : decode cX7_alter 30 = .ok (.if_icmp .ge 7, 3) := by decide +kernel
theorem dX7_alter_33 : decode cX7_alter 33 = .ok (.iconst 1, 1) := by decide +kernel
theorem dX7_alter_34 : decode cX7_alter 34 = .ok (.goto 4, 3) := by decide +kernel
theorem dX7_alter_37 : decode cX7_alter 37 = .ok (.iconst 0, 1) := by decide +kernel
theorem dX7_alter_38 : decode cX7_alter 38 = .ok (.istore_n 3, 1) := by decide +kernel
theorem dX7_alter_39 : decode cX7_alter 39 = .ok (.iconst 0, 1) := by decide +kernel
theorem dX7_alter_40 : decode cX7_alter 40 = .ok (.istore 4, 2) := by decide +kernel
theorem dX7_alter_42 : decode cX7_alter 42 = .ok (.iload 4, 2) := by decide +kernel
theorem dX7_alter_44 : decode cX7_alter 44 = .ok (.aload_n 0, 1) := by decide +kernel
theorem dX7_alter_45 : decode cX7_alter 45 = .ok (.getfield 7, 3) := by decide +kernel
theorem dX7_alter_48 : decode cX7_alter 48 = .ok (.bipush 15, 2) := by decide +kernel
theorem dX7_alter_50 : decode cX7_alter 50 = .ok (.iaload, 1) := by decide +kernel
theorem dX7_alter_51 : decode cX7_alter 51 = .ok (.if_icmp .ge 92, 3) := by decide +kernel
theorem dX7_alter_54 : decode cX7_alter 54 = .ok (.iload_n 3, 1) := by decide +kernel
theorem dX7_alter_55 : decode cX7_alter 55 = .ok (.ifCond .eq 88, 3) := by decide +kernel
theorem dX7_alter_58 : decode cX7_alter 58 = .ok (.iload 4, 2) := by decide +kernel
theorem dX7_alter_60 : decode cX7_alter 60 = .ok (.iconst 1, 1) := by decide +kernel
theorem dX7_alter_61 : decode cX7_alter 61 = .ok (.iadd, 1) := by decide +kernel
theorem dX7_alter_62 : decode cX7_alter 62 = .ok (.istore 5, 2) := by decide +kernel
theorem dX7_alter_64 : decode cX7_alter 64 = .ok (.iload 5, 2) := by decide +kernel
theorem dX7_alter_66 : decode cX7_alter 66 = .ok (.aload_n 0, 1) := by decide +kernel
theorem dX7_alter_67 : decode cX7_alter 67 = .ok (.getfield 7, 3) := by decide +kernel
theorem dX7_alter_70 : decode cX7_alter 70 = .ok (.bipush 15, 2) := by decide +kernel
theorem dX7_alter_72 : decode cX7_alter 72 = .ok (.iaload, 1) := by decide +kernel
theorem dX7_alter_73 : decode cX7_alter 73 = .ok (.if_icmp .ge 64, 3) := by decide +kernel
theorem dX7_alter_76 : decode cX7_alter 76 = .ok (.iload_n 3, 1) := by decide +kernel
theorem dX7_alter_77 : decode cX7_alter 77 = .ok (.ifCond .eq 52, 3) := by decide +kernel
theorem dX7_alter_80 : decode cX7_alter 80 = .ok (.iload_n 2, 1) := by decide +kernel
theorem dX7_alter_81 : decode cX7_alter 81 = .ok (.iload 4, 2) := by decide +kernel
theorem dX7_alter_83 : decode cX7_alter 83 = .ok (.ishr, 1) := by decide +kernel
theorem dX7_alter_84 : decode cX7_alter 84 = .ok (.iconst 1, 1) := by decide +kernel
theorem dX7_alter_85 : decode cX7_alter 85 = .ok (.iand, 1) := by decide +kernel
theorem dX7_alter_86 : decode cX7_alter 86 = .ok (.iconst 1, 1) := by decide +kernel
theorem dX7_alter_87 : decode cX7_alter 87 = .ok (.if_icmp .eq 38, 3) := by decide +kernel
theorem dX7_alter_90 : decode cX7_alter 90 = .ok (.iload_n 2, 1) := by decide +kernel
theorem dX7_alter_91 : decode cX7_alter 91 = .ok (.iload 5, 2) := by decide +kernel
theorem dX7_alter_93 : decode cX7_alter 93 = .ok (.ishr, 1) := by decide +kernel
theorem dX7_alter_94 : decode cX7_alter 94 = .ok (.iconst 1, 1) := by decide +kernel
theorem dX7_alter_95 : decode cX7_alter 95 = .ok (.iand, 1) := by decide +kernel
theorem dX7_alter_96 : decode cX7_alter 96 = .ok (.iconst 1, 1) := by decide +kernel
theorem dX7_alter_97 : decode cX7_alter 97 = .ok (.if_icmp .eq 28, 3) := by decide +kernel
theorem dX7_alter_100 : decode cX7_alter 100 = .ok (.aload_n 0, 1) := by decide +kernel
theorem dX7_alter_101 : decode cX7_alter 101 = .ok (.iload 4, 2) := by decide +kernel
theorem dX7_alter_103 : decode cX7_alter 103 = .ok (.aload_n 0, 1) := by decide +kernel
theorem dX7_alter_104 : decode cX7_alter 104 = .ok (.iload 4, 2) := by decide +kernel
theorem dX7_alter_106 : decode cX7_alter 106 = .ok (.iconst 1, 1) := by decide +kernel
theorem dX7_alter_107 : decode cX7_alter 107 = .ok (.invokevirtual 121, 3) := by decide +kernel
theorem dX7_alter_110 : decode cX7_alter 110 = .ok (.iload 5, 2) := by decide +kernel
theorem dX7_alter_112 : decode cX7_alter 112 = .ok (.aload_n 0, 1) := by decide +kernel
theorem dX7_alter_113 : decode cX7_alter 113 = .ok (.iload 5, 2) := by decide +kernel
theorem dX7_alter_115 : decode cX7_alter 115 = .ok (.iconst 1, 1) := by decide +kernel
theorem dX7_alter_116 : decode cX7_alter 116 = .ok (.invokevirtual 121, 3) := by decide +kernel
theorem dX7_alter_119 : decode cX7_alter 119 = .ok (.invokevirtual 207, 3) := by decide +kernel
theorem dX7_alter_122 : decode cX7_alter 122 = .ok (.ifCond .ne 7, 3) := by decide +kernel
theorem dX7_alter_125 : decode cX7_alter 125 = .ok (.iconst 1, 1) := by decide +kernel
theorem dX7_alter_126 : decode cX7_alter 126 = .ok (.goto 4, 3) := by decide +kernel
theorem dX7_alter_129 : decode cX7_alter 129 = .ok (.iconst 0, 1) := by decide +kernel
theorem dX7_alter_130 : decode cX7_alter 130 = .ok (.istore_n 3, 1) := by decide +kernel
theorem dX7_alter_131 : decode cX7_alter 131 = .ok (.iinc 5 1, 3) := by decide +kernel
theorem dX7_alter_134 : decode cX7_alter 134 = .ok (.goto (-70), 3) := by decide +kernel
theorem dX7_alter_137 : decode cX7_alter 137 = .ok (.iinc 4 1, 3) := by decide +kernel
theorem dX7_alter_140 : decode cX7_alter 140 = .ok (.goto (-98), 3) := by decide +kernel
theorem dX7_alter_143 : decode cX7_alter 143 = .ok (.iload_n 3, 1) := by decide +kernel
theorem dX7_alter_144 : decode cX7_alter 144 = .ok (.ifCond .eq 7, 3) := by decide +kernel
theorem dX7_alter_147 : decode cX7_alter 147 = .ok (.iload_n 2, 1) := by decide +kernel
theorem dX7_alter_148 : decode cX7_alter 148 = .ok (.goto 4, 3) := by decide +kernel
theorem dX7_alter_151 : decode cX7_alter 151 = .ok (.iload_n 1, 1) := by decide +kernel
theorem dX7_alter_152 : decode cX7_alter 152 = .ok (.istore_n 1, 1) := by decide +kernel
theorem dX7_alter_153 : decode cX7_alter 153 = .ok (.iinc 2 1, 3) := by decide +kernel
theorem dX7_alter_156 : decode cX7_alter 156 = .ok (.goto (-152), 3) := by decide +kernel
theorem dX7_alter_159 : decode cX7_alter 159 = .ok (.iload_n 1, 1) := by decide +kernel
