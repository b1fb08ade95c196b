theorem dX8_init_0 : decode cX8_init 0 = .ok (.aload_n 0, 1) := by decide +kernel
theorem dX8_init_1 : decode cX8_init 1 = .ok (.invokespecial 1, 3) := by decide +kernel
theorem dX8_init_4 : decode cX8_init 4 = .ok (.aload_n 0, 1) := by decide +kernel
theorem dX8_init_5 : decode cX8_init 5 = .ok (.iconst 3, 1) := by decide +kernel
theorem dX8_init_6 : decode cX8_init 6 = .ok (.newarray .int, 2) := by decide +kernel
theorem dX8_init_8 : decode cX8_init 8 = .ok (.putfield 7, 3) := by decide +kernel
theorem dX8_init_11 : decode cX8_init 11 = .ok (.aload_n 0, 1) := by decide +kernel
theorem dX8_init_12 : decode cX8_init 12 = .ok (.bipush 12, 2) := by decide +kernel
theorem dX8_init_14 : decode cX8_init 14 = .ok (.newarray .int, 2) := by decide +kernel
theorem dX8_init_16 : decode cX8_init 16 = .ok (.putfield 13, 3) := by decide +kernel
theorem dX8_init_19 : decode cX8_init 19 = .ok (.aload_n 0, 1) := by decide +kernel
theorem dX8_init_20 : decode cX8_init 20 = .ok (.sipush 1152, 3) := by decide +kernel
theorem dX8_init_23 : decode cX8_init 23 = .ok (.newarray .int, 2) := by decide +kernel
theorem dX8_init_25 : decode cX8_init 25 = .ok (.putfield 16, 3) := by decide +kernel
theorem dX8_init_28 : decode cX8_init 28 = .ok (.aload_n 0, 1) := by decide +kernel
theorem dX8_init_29 : decode cX8_init 29 = .ok (.bipush 12, 2) := by decide +kernel
theorem dX8_init_31 : decode cX8_init 31 = .ok (.newarray .int, 2) := by decide +kernel
theorem dX8_init_33 : decode cX8_init 33 = .ok (.putfield 19, 3) := by decide +kernel
theorem dX8_init_36 : decode cX8_init 36 = .ok (.aload_n 0, 1) := by decide +kernel
theorem dX8_init_37 : decode cX8_init 37 = .ok (.bipush 12, 2) := by decide +kernel
theorem dX8_init_39 : decode cX8_init 39 = .ok (.newarray .int, 2) := by decide +kernel
theorem dX8_init_41 : decode cX8_init 41 = .ok (.putfield 22, 3) := by decide +kernel
theorem dX8_init_44 : decode cX8_init 44 = .ok (.aload_n 0, 1) := by decide +kernel
theorem dX8_init_45 : decode cX8_init 45 = .ok (.bipush 12, 2) := by decide +kernel
theorem dX8_init_47 : decode cX8_init 47 = .ok (.newarray .int, 2) := by decide +kernel
theorem dX8_init_49 : decode cX8_init 49 = .ok (.putfield 25, 3) := by decide +kernel
theorem dX8_init_52 : decode cX8_init 52 = .ok (.aload_n 0, 1) := by decide +kernel
theorem dX8_init_53 : decode cX8_init 53 = .ok (.bipush 12, 2) := by decide +kernel
theorem dX8_init_55 : decode cX8_init 55 = .ok (.newarray .int, 2) := by decide +kernel
theorem dX8_init_57 : decode cX8_init 57 = .ok (.putfield 28, 3) := by decide +kernel
theorem dX8_init_60 : decode cX8_init 60 = .ok (.aload_n 0, 1) := by decide +kernel
theorem dX8_init_61 : decode cX8_init 61 = .ok (.sipush 480, 3) := by decide +kernel
theorem dX8_init_64 : decode cX8_init 64 = .ok (.newarray .int, 2) := by decide +kernel
theorem dX8_init_66 : decode cX8_init 66 = .ok (.putfield 31, 3) := by decide +kernel
theorem dX8_init_69 : decode cX8_init 69 = .ok (.aload_n 0, 1) := by decide +kernel
theorem dX8_init_70 : decode cX8_init 70 = .ok (.sipush 480, 3) := by decide +kernel
theorem dX8_init_73 : decode cX8_init 73 = .ok (.newarray .int, 2) := by decide +kernel
theorem dX8_init_75 : decode cX8_init 75 = .ok (.putfield 34, 3) := by decide +kernel
theorem dX8_init_78 : decode cX8_init 78 = .ok (.aload_n 0, 1) := by decide +kernel
theorem dX8_init_79 : decode cX8_init 79 = .ok (.bipush 12, 2) := by decide +kernel
theorem dX8_init_81 : decode cX8_init 81 = .ok (.newarray .int, 2) := by decide +kernel
theorem dX8_init_83 : decode cX8_init 83 = .ok (.putfield 37, 3) := by decide +kernel
theorem dX8_init_86 : decode cX8_init 86 = .ok (.aload_n 0, 1) := by decide +kernel
theorem dX8_init_87 : decode cX8_init 87 = .ok (.sipush 480, 3) := by decide +kernel
theorem dX8_init_90 : decode cX8_init 90 = .ok (.newarray .int, 2) := by decide +kernel
theorem dX8_init_92 : decode cX8_init 92 = .ok (.putfield 40, 3) := by decide +kernel
theorem dX8_init_95 : decode cX8_init 95 = .ok (.aload_n 0, 1) := by decide +kernel
theorem dX8_init_96 : decode cX8_init 96 = .ok (.sipush 480, 3) := by decide +kernel
theorem dX8_init_99 : decode cX8_init 99 = .ok (.newarray .int, 2) := by decide +kernel
theorem dX8_init_101 : decode cX8_init 101 = .ok (.putfield 43, 3) := by decide +kernel
theorem dX8_init_104 : decode cX8_init 104 = .ok (.aload_n 0, 1) := by decide +kernel
theorem dX8_init_105 : decode cX8_init 105 = .ok (.bipush 20, 2) := by decide +kernel
theorem dX8_init_107 : decode cX8_init 107 = .ok (.newarray .int, 2) := by decide +kernel
theorem dX8_init_109 : decode cX8_init 109 = .ok (.putfield 46, 3) := by decide +kernel
theorem dX8_init_112 : decode cX8_init 112 = .ok (.aload_n 0, 1) := by decide +kernel
theorem dX8_init_113 : decode cX8_init 113 = .ok (.sipush 1920, 3) := by decide +kernel
theorem dX8_init_116 : decode cX8_init 116 = .ok (.newarray .int, 2) := by decide +kernel
theorem dX8_init_118 : decode cX8_init 118 = .ok (.putfield 49, 3) := by decide +kernel
theorem dX8_init_121 : decode cX8_init 121 = .ok (.aload_n 0, 1) := by decide +kernel
theorem dX8_init_122 : decode cX8_init 122 = .ok (.bipush 20, 2) := by decide +kernel
theorem dX8_init_124 : decode cX8_init 124 = .ok (.newarray .int, 2) := by decide +kernel
theorem dX8_init_126 : decode cX8_init 126 = .ok (.putfield 52, 3) := by decide +kernel
theorem dX8_init_129 : decode cX8_init 129 = .ok (.aload_n 0, 1) := by decide +kernel
theorem dX8_init_130 : decode cX8_init 130 = .ok (.bipush 20, 2) := by decide +kernel
theorem dX8_init_132 : decode cX8_init 132 = .ok (.newarray .int, 2) := by decide +kernel
theorem dX8_init_134 : decode cX8_init 134 = .ok (.putfield 55, 3) := by decide +kernel
theorem dX8_init_137 : decode cX8_init 137 = .ok (.aload_n 0, 1) := by decide +kernel
theorem dX8_init_138 : decode cX8_init 138 = .ok (.bipush 20, 2) := by decide +kernel
theorem dX8_init_140 : decode cX8_init 140 = .ok (.newarray .int, 2) := by decide +kernel
theorem dX8_init_142 : decode cX8_init 142 = .ok (.putfield 58, 3) := by decide +kernel
theorem dX8_init_145 : decode cX8_init 145 = .ok (.aload_n 0, 1) := by decide +kernel
theorem dX8_init_146 : decode cX8_init 146 = .ok (.bipush 20, 2) := by decide +kernel
theorem dX8_init_148 : decode cX8_init 148 = .ok (.newarray .int, 2) := by decide +kernel
theorem dX8_init_150 : decode cX8_init 150 = .ok (.putfield 61, 3) := by decide +kernel
theorem dX8_init_153 : decode cX8_init 153 = .ok (.aload_n 0, 1) := by decide +kernel
theorem dX8_init_154 : decode cX8_init 154 = .ok (.bipush 120, 2) := by decide +kernel
theorem dX8_init_156 : decode cX8_init 156 = .ok (.newarray .int, 2) := by decide +kernel
theorem dX8_init_158 : decode cX8_init 158 = .ok (.putfield 64, 3) := by decide +kernel
theorem dX8_init_161 : decode cX8_init 161 = .ok (.aload_n 0, 1) := by decide +kernel
theorem dX8_init_162 : decode cX8_init 162 = .ok (.bipush 6, 2) := by decide +kernel
theorem dX8_init_164 : decode cX8_init 164 = .ok (.newarray .int, 2) := by decide +kernel
theorem dX8_init_166 : decode cX8_init 166 = .ok (.putfield 67, 3) := by decide +kernel
theorem dX8_init_169 : decode cX8_init 169 = .ok (.aload_n 0, 1) := by decide +kernel
theorem dX8_init_170 : decode cX8_init 170 = .ok (.bipush 6, 2) := by decide +kernel
theorem dX8_init_172 : decode cX8_init 172 = .ok (.newarray .int, 2) := by decide +kernel
theorem dX8_init_174 : decode cX8_init 174 = .ok (.putfield 70, 3) := by decide +kernel
theorem dX8_init_177 : decode cX8_init 177 = .ok (.aload_n 0, 1) := by decide +kernel
theorem dX8_init_178 : decode cX8_init 178 = .ok (.bipush 6, 2) := by decide +kernel
theorem dX8_init_180 : decode cX8_init 180 = .ok (.newarray .int, 2) := by decide +kernel
theorem dX8_init_182 : decode cX8_init 182 = .ok (.putfield 73, 3) := by decide +kernel
theorem dX8_init_185 : decode cX8_init 185 = .ok (.aload_n 0, 1) := by decide +kernel
theorem dX8_init_186 : decode cX8_init 186 = .ok (.bipush 6, 2) := by decide +kernel
theorem dX8_init_188 : decode cX8_init 188 = .ok (.newarray .int, 2) := by decide +kernel
theorem dX8_init_190 : decode cX8_init 190 = .ok (.putfield 76, 3) := by decide +kernel
theorem dX8_init_193 : decode cX8_init 193 = .ok (.aload_n 0, 1) := by decide +kernel
theorem dX8_init_194 : decode cX8_init 194 = .ok (.bipush 6, 2) := by decide +kernel
theorem dX8_init_196 : decode cX8_init 196 = .ok (.newarray .int, 2) := by decide +kernel
theorem dX8_init_198 : decode cX8_init 198 = .ok (.putfield 79, 3) := by decide +kernel
theorem dX8_init_201 : decode cX8_init 201 = .ok (.aload_n 0, 1) := by decide +kernel
theorem dX8_init_202 : decode cX8_init 202 = .ok (.bipush 6, 2) := by decide +kernel
theorem dX8_init_204 : decode cX8_init 204 = .ok (.newarray .int, 2) := by decide +kernel
theorem dX8_init_206 : decode cX8_init 206 = .ok (.putfield 82, 3) := by decide +kernel
theorem dX8_init_209 : decode cX8_init 209 = .ok (.aload_n 0, 1) := by decide +kernel
theorem dX8_init_210 : decode cX8_init 210 = .ok (.bipush 96, 2) := by decide +kernel
theorem dX8_init_212 : decode cX8_init 212 = .ok (.newarray .int, 2) := by decide +kernel
theorem dX8_init_214 : decode cX8_init 214 = .ok (.putfield 85, 3) := by decide +kernel
theorem dX8_init_217 : decode cX8_init 217 = .ok (.aload_n 0, 1) := by decide +kernel
theorem dX8_init_218 : decode cX8_init 218 = .ok (.bipush 96, 2) := by decide +kernel
theorem dX8_init_220 : decode cX8_init 220 = .ok (.newarray .int, 2) := by decide +kernel
theorem dX8_init_222 : decode cX8_init 222 = .ok (.putfield 88, 3) := by decide +kernel
theorem dX8_init_225 : decode cX8_init 225 = .ok (.aload_n 0, 1) := by decide +kernel
theorem dX8_init_226 : decode cX8_init 226 = .ok (.sipush 6144, 3) := by decide +kernel
theorem dX8_init_229 : decode cX8_init 229 = .ok (.newarray .int, 2) := by decide +kernel
theorem dX8_init_231 : decode cX8_init 231 = .ok (.putfield 91, 3) := by decide +kernel
theorem dX8_init_234 : decode cX8_init 234 = .ok (.aload_n 0, 1) := by decide +kernel
theorem dX8_init_235 : decode cX8_init 235 = .ok (.sipush 6144, 3) := by decide +kernel
theorem dX8_init_238 : decode cX8_init 238 = .ok (.newarray .int, 2) := by decide +kernel
theorem dX8_init_240 : decode cX8_init 240 = .ok (.putfield 94, 3) := by decide +kernel
theorem dX8_init_243 : decode cX8_init 243 = .ok (.aload_n 0, 1) := by decide +kernel
theorem dX8_init_244 : decode cX8_init 244 = .ok (.bipush 96, 2) := by decide +kernel
theorem dX8_init_246 : decode cX8_init 246 = .ok (.newarray .boolean, 2) := by decide +kernel
theorem dX8_init_248 : decode cX8_init 248 = .ok (.putfield 97, 3) := by decide +kernel
theorem dX8_init_251 : decode cX8_init 251 = .ok (.iconst 0, 1) := by decide +kernel
theorem dX8_init_252 : decode cX8_init 252 = .ok (.istore_n 1, 1) := by decide +kernel
theorem dX8_init_253 : decode cX8_init 253 = .ok (.iload_n 1, 1) := by decide +kernel
theorem dX8_init_254 : decode cX8_init 254 = .ok (.iconst 3, 1) := by decide +kernel
theorem dX8_init_255 : decode cX8_init 255 = .ok (.if_icmp .ge 18, 3) := by decide +kernel
theorem dX8_init_258 : decode cX8_init 258 = .ok (.aload_n 0, 1) := by decide +kernel
theorem dX8_init_259 : decode cX8_init 259 = .ok (.getfield 7, 3) := by decide +kernel
theorem dX8_init_262 : decode cX8_init 262 = .ok (.iload_n 1, 1) := by decide +kernel
theorem dX8_init_263 : decode cX8_init 263 = .ok (.iload_n 1, 1) := by decide +kernel
theorem dX8_init_264 : decode cX8_init 264 = .ok (.iconst 2, 1) := by decide +kernel
theorem dX8_init_265 : decode cX8_init 265 = .ok (.iadd, 1) := by decide +kernel
theorem dX8_init_266 : decode cX8_init 266 = .ok (.iastore, 1) := by decide +kernel
theorem dX8_init_267 : decode cX8_init 267 = .ok (.iinc 1 1, 3) := by decide +kernel
theorem dX8_init_270 : decode cX8_init 270 = .ok (.goto (-17), 3) := by decide +kernel
theorem dX8_init_273 : decode cX8_init 273 = .ok (.return_, 1) := by decide +kernel
theorem dX8_thrown_0 : decode cX8_thrown 0 = .ok (.aload_n 0, 1) := by decide +kernel
theorem dX8_thrown_1 : decode cX8_thrown 1 = .ok (.getfield 101, 3) := by decide +kernel
theorem dX8_thrown_4 : decode cX8_thrown 4 = .ok (.ireturn, 1) := by decide +kernel
theorem dX8_fails_0 : decode cX8_fails 0 = .ok (.aload_n 0, 1) := by decide +kernel
theorem dX8_fails_1 : decode cX8_fails 1 = .ok (.iload_n 1, 1) := by decide +kernel
theorem dX8_fails_2 : decode cX8_fails 2 = .ok (.putfield 101, 3) := by decide +kernel
theorem dX8_fails_5 : decode cX8_fails 5 = .ok (.iconst 0, 1) := by decide +kernel
theorem dX8_fails_6 : decode cX8_fails 6 = .ok (.ireturn, 1) := by decide +kernel
theorem dX8_in_0 : decode cX8_in 0 = .ok (.iload_n 0, 1) := by decide +kernel
theorem dX8_in_1 : decode cX8_in 1 = .ok (.iload_n 1, 1) := by decide +kernel
theorem dX8_in_2 : decode cX8_in 2 = .ok (.if_icmp .lt 12, 3) := by decide +kernel
theorem dX8_in_5 : decode cX8_in 5 = .ok (.iload_n 0, 1) := by decide +kernel
theorem dX8_in_6 : decode cX8_in 6 = .ok (.iload_n 2, 1) := by decide +kernel
theorem dX8_in_7 : decode cX8_in 7 = .ok (.if_icmp .gt 7, 3) := by decide +kernel
theorem dX8_in_10 : decode cX8_in 10 = .ok (.iconst 1, 1) := by decide +kernel
theorem dX8_in_11 : decode cX8_in 11 = .ok (.goto 4, 3) := by decide +kernel
theorem dX8_in_14 : decode cX8_in 14 = .ok (.iconst 0, 1) := by decide +kernel
theorem dX8_in_15 : decode cX8_in 15 = .ok (.ireturn, 1) := by decide +kernel
set_option maxRecDepth 20000 in
theorem ggX8_isCell_X8_in : GoodIn wsX8_isCell wsX8_in := goodIn_r _ [4] (by decide +kernel) (by decide +kernel)
set_option maxRecDepth 20000 in
theorem gX8_isCell_X8_in : GoodIn wsX8_isCell (va_wsS RX8 105 yX8_in wsX8_in) := goodIn_app (goodIn_of _ (by decide +kernel)) ggX8_isCell_X8_in
theorem dX8_isCell_0 : decode cX8_isCell 0 = .ok (.iload_n 0, 1) := by decide +kernel
theorem dX8_isCell_1 : decode cX8_isCell 1 = .ok (.iconst 0, 1) := by decide +kernel
theorem dX8_isCell_2 : decode cX8_isCell 2 = .ok (.bipush 95, 2) := by decide +kernel
theorem dX8_isCell_4 : decode cX8_isCell 4 = .ok (.invokestatic 105, 3) := by decide +kernel
theorem dX8_isCell_7 : decode cX8_isCell 7 = .ok (.ireturn, 1) := by decide +kernel
set_option maxRecDepth 20000 in
theorem ggX8_isPerson_X8_in : GoodIn wsX8_isPerson wsX8_in := goodIn_r _ [4] (by decide +kernel) (by decide +kernel)
set_option maxRecDepth 20000 in
theorem gX8_isPerson_X8_in : GoodIn wsX8_isPerson (va_wsS RX8 105 yX8_in wsX8_in) := goodIn_app (goodIn_of _ (by decide +kernel)) ggX8_isPerson_X8_in
theorem dX8_isPerson_0 : decode cX8_isPerson 0 = .ok (.iload_n 0, 1) := by decide +kernel
theorem dX8_isPerson_1 : decode cX8_isPerson 1 = .ok (.iconst 0, 1) := by decide +kernel
theorem dX8_isPerson_2 : decode cX8_isPerson 2 = .ok (.iconst 5, 1) := by decide +kernel
theorem dX8_isPerson_3 : decode cX8_isPerson 3 = .ok (.invokestatic 105, 3) := by decide +kernel
theorem dX8_isPerson_6 : decode cX8_isPerson 6 = .ok (.ireturn, 1) := by decide +kernel
set_option maxRecDepth 20000 in
theorem ggX8_isLevel_X8_in : GoodIn wsX8_isLevel wsX8_in := goodIn_r _ [5] (by decide +kernel) (by decide +kernel)
set_option maxRecDepth 20000 in
theorem gX8_isLevel_X8_in : GoodIn wsX8_isLevel (va_wsS RX8 105 yX8_in wsX8_in) := goodIn_app (goodIn_of _ (by decide +kernel)) ggX8_isLevel_X8_in
theorem dX8_isLevel_0 : decode cX8_isLevel 0 = .ok (.iload_n 1, 1) := by decide +kernel
theorem dX8_isLevel_1 : decode cX8_isLevel 1 = .ok (.iconst 0, 1) := by decide +kernel
theorem dX8_isLevel_2 : decode cX8_isLevel 2 = .ok (.aload_n 0, 1) := by decide +kernel
theorem dX8_isLevel_3 : decode cX8_isLevel 3 = .ok (.getfield 109, 3) := by decide +kernel
theorem dX8_isLevel_6 : decode cX8_isLevel 6 = .ok (.iconst 1, 1) := by decide +kernel
theorem dX8_isLevel_7 : decode cX8_isLevel 7 = .ok (.isub, 1) := by decide +kernel
theorem dX8_isLevel_8 : decode cX8_isLevel 8 = .ok (.invokestatic 105, 3) := by decide +kernel
theorem dX8_isLevel_11 : decode cX8_isLevel 11 = .ok (.ireturn, 1) := by decide +kernel
set_option maxRecDepth 20000 in
theorem ggX8_isWork_X8_in : GoodIn wsX8_isWork wsX8_in := goodIn_r _ [5] (by decide +kernel) (by decide +kernel)
set_option maxRecDepth 20000 in
theorem gX8_isWork_X8_in : GoodIn wsX8_isWork (va_wsS RX8 105 yX8_in wsX8_in) := goodIn_app (goodIn_of _ (by decide +kernel)) ggX8_isWork_X8_in
theorem dX8_isWork_0 : decode cX8_isWork 0 = .ok (.iload_n 1, 1) := by decide +kernel
theorem dX8_isWork_1 : decode cX8_isWork 1 = .ok (.iconst 0, 1) := by decide +kernel
theorem dX8_isWork_2 : decode cX8_isWork 2 = .ok (.aload_n 0, 1) := by decide +kernel
theorem dX8_isWork_3 : decode cX8_isWork 3 = .ok (.getfield 112, 3) := by decide +kernel
theorem dX8_isWork_6 : decode cX8_isWork 6 = .ok (.iconst 1, 1) := by decide +kernel
theorem dX8_isWork_7 : decode cX8_isWork 7 = .ok (.isub, 1) := by decide +kernel
theorem dX8_isWork_8 : decode cX8_isWork 8 = .ok (.invokestatic 105, 3) := by decide +kernel
theorem dX8_isWork_11 : decode cX8_isWork 11 = .ok (.ireturn, 1) := by decide +kernel
theorem dX8_lays_0 : decode cX8_lays 0 = .ok (.aload_n 0, 1) := by decide +kernel
theorem dX8_lays_1 : decode cX8_lays 1 = .ok (.iconst 0, 1) := by decide +kernel
theorem dX8_lays_2 : decode cX8_lays 2 = .ok (.putfield 115, 3) := by decide +kernel
theorem dX8_lays_5 : decode cX8_lays 5 = .ok (.iconst 0, 1) := by decide +kernel
theorem dX8_lays_6 : decode cX8_lays 6 = .ok (.istore_n 3, 1) := by decide +kernel
theorem dX8_lays_7 : decode cX8_lays 7 = .ok (.iload_n 3, 1) := by decide +kernel
theorem dX8_lays_8 : decode cX8_lays 8 = .ok (.bipush 96, 2) := by decide +kernel
theorem dX8_lays_10 : decode cX8_lays 10 = .ok (.if_icmp .ge 85, 3) := by decide +kernel
theorem dX8_lays_13 : decode cX8_lays 13 = .ok (.aload_n 0, 1) := by decide +kernel
theorem dX8_lays_14 : decode cX8_lays 14 = .ok (.getfield 85, 3) := by decide +kernel
theorem dX8_lays_17 : decode cX8_lays 17 = .ok (.iload_n 3, 1) := by decide +kernel
theorem dX8_lays_18 : decode cX8_lays 18 = .ok (.iload_n 1, 1) := by decide +kernel
theorem dX8_lays_19 : decode cX8_lays 19 = .ok (.ifCond .eq 17, 3) := by decide +kernel
theorem dX8_lays_22 : decode cX8_lays 22 = .ok (.aload_n 0, 1) := by decide +kernel
theorem dX8_lays_23 : decode cX8_lays 23 = .ok (.getfield 49, 3) := by decide +kernel
theorem dX8_lays_26 : decode cX8_lays 26 = .ok (.bipush 96, 2) := by decide +kernel
theorem dX8_lays_28 : decode cX8_lays 28 = .ok (.iload_n 2, 1) := by decide +kernel
theorem dX8_lays_29 : decode cX8_lays 29 = .ok (.imul, 1) := by decide +kernel
theorem dX8_lays_30 : decode cX8_lays 30 = .ok (.iload_n 3, 1) := by decide +kernel
theorem dX8_lays_31 : decode cX8_lays 31 = .ok (.iadd, 1) := by decide +kernel
theorem dX8_lays_32 : decode cX8_lays 32 = .ok (.iaload, 1) := by decide +kernel
theorem dX8_lays_33 : decode cX8_lays 33 = .ok (.goto 14, 3) := by decide +kernel
theorem dX8_lays_36 : decode cX8_lays 36 = .ok (.aload_n 0, 1) := by decide +kernel
theorem dX8_lays_37 : decode cX8_lays 37 = .ok (.getfield 16, 3) := by decide +kernel
theorem dX8_lays_40 : decode cX8_lays 40 = .ok (.bipush 96, 2) := by decide +kernel
theorem dX8_lays_42 : decode cX8_lays 42 = .ok (.iload_n 2, 1) := by decide +kernel
theorem dX8_lays_43 : decode cX8_lays 43 = .ok (.imul, 1) := by decide +kernel
theorem dX8_lays_44 : decode cX8_lays 44 = .ok (.iload_n 3, 1) := by decide +kernel
theorem dX8_lays_45 : decode cX8_lays 45 = .ok (.iadd, 1) := by decide +kernel
theorem dX8_lays_46 : decode cX8_lays 46 = .ok (.iaload, 1) := by decide +kernel
theorem dX8_lays_47 : decode cX8_lays 47 = .ok (.iastore, 1) := by decide +kernel
theorem dX8_lays_48 : decode cX8_lays 48 = .ok (.aload_n 0, 1) := by decide +kernel
theorem dX8_lays_49 : decode cX8_lays 49 = .ok (.getfield 88, 3) := by decide +kernel
theorem dX8_lays_52 : decode cX8_lays 52 = .ok (.iload_n 3, 1) := by decide +kernel
theorem dX8_lays_53 : decode cX8_lays 53 = .ok (.aload_n 0, 1) := by decide +kernel
theorem dX8_lays_54 : decode cX8_lays 54 = .ok (.getfield 85, 3) := by decide +kernel
theorem dX8_lays_57 : decode cX8_lays 57 = .ok (.iload_n 3, 1) := by decide +kernel
theorem dX8_lays_58 : decode cX8_lays 58 = .ok (.iaload, 1) := by decide +kernel
theorem dX8_lays_59 : decode cX8_lays 59 = .ok (.iconst 2, 1) := by decide +kernel
theorem dX8_lays_60 : decode cX8_lays 60 = .ok (.if_icmp .ne 12, 3) := by decide +kernel
theorem dX8_lays_63 : decode cX8_lays 63 = .ok (.aload_n 0, 1) := by decide +kernel
theorem dX8_lays_64 : decode cX8_lays 64 = .ok (.getfield 115, 3) := by decide +kernel
theorem dX8_lays_67 : decode cX8_lays 67 = .ok (.iconst 1, 1) := by decide +kernel
theorem dX8_lays_68 : decode cX8_lays 68 = .ok (.iadd, 1) := by decide +kernel
theorem dX8_lays_69 : decode cX8_lays 69 = .ok (.goto 4, 3) := by decide +kernel
theorem dX8_lays_72 : decode cX8_lays 72 = .ok (.iconst 0, 1) := by decide +kernel
theorem dX8_lays_73 : decode cX8_lays 73 = .ok (.iastore, 1) := by decide +kernel
theorem dX8_lays_74 : decode cX8_lays 74 = .ok (.aload_n 0, 1) := by decide +kernel
theorem dX8_lays_75 : decode cX8_lays 75 = .ok (.dup, 1) := by decide +kernel
theorem dX8_lays_76 : decode cX8_lays 76 = .ok (.getfield 115, 3) := by decide +kernel
theorem dX8_lays_79 : decode cX8_lays 79 = .ok (.aload_n 0, 1) := by decide +kernel
theorem dX8_lays_80 : decode cX8_lays 80 = .ok (.getfield 88, 3) := by decide +kernel
theorem dX8_lays_83 : decode cX8_lays 83 = .ok (.iload_n 3, 1) := by decide +kernel
theorem dX8_lays_84 : decode cX8_lays 84 = .ok (.iaload, 1) := by decide +kernel
theorem dX8_lays_85 : decode cX8_lays 85 = .ok (.iadd, 1) := by decide +kernel
theorem dX8_lays_86 : decode cX8_lays 86 = .ok (.putfield 115, 3) := by decide +kernel
theorem dX8_lays_89 : decode cX8_lays 89 = .ok (.iinc 3 1, 3) := by decide +kernel
theorem dX8_lays_92 : decode cX8_lays 92 = .ok (.goto (-85), 3) := by decide +kernel
theorem dX8_lays_95 : decode cX8_lays 95 = .ok (.return_, 1) := by decide +kernel
set_option maxRecDepth 20000 in
theorem ggX8_isSolid_X8_in : GoodIn wsX8_isSolid wsX8_in := goodIn_r _ [7] (by decide +kernel) (by decide +kernel)
set_option maxRecDepth 20000 in
theorem gX8_isSolid_X8_in : GoodIn wsX8_isSolid (va_wsS RX8 105 yX8_in wsX8_in) := goodIn_app (goodIn_of _ (by decide +kernel)) ggX8_isSolid_X8_in
theorem dX8_isSolid_0 : decode cX8_isSolid 0 = .ok (.iload_n 1, 1) := by decide +kernel
theorem dX8_isSolid_1 : decode cX8_isSolid 1 = .ok (.iconst 0, 1) := by decide +kernel
theorem dX8_isSolid_2 : decode cX8_isSolid 2 = .ok (.bipush 11, 2) := by decide +kernel
theorem dX8_isSolid_4 : decode cX8_isSolid 4 = .ok (.invokestatic 105, 3) := by decide +kernel
theorem dX8_isSolid_7 : decode cX8_isSolid 7 = .ok (.ifCond .eq 7, 3) := by decide +kernel
theorem dX8_isSolid_10 : decode cX8_isSolid 10 = .ok (.iload_n 2, 1) := by decide +kernel
theorem dX8_isSolid_11 : decode cX8_isSolid 11 = .ok (.ifCond .ge 5, 3) := by decide +kernel
theorem dX8_isSolid_14 : decode cX8_isSolid 14 = .ok (.iconst 1, 1) := by decide +kernel
theorem dX8_isSolid_15 : decode cX8_isSolid 15 = .ok (.ireturn, 1) := by decide +kernel
theorem dX8_isSolid_16 : decode cX8_isSolid 16 = .ok (.iload_n 2, 1) := by decide +kernel
theorem dX8_isSolid_17 : decode cX8_isSolid 17 = .ok (.bipush 7, 2) := by decide +kernel
theorem dX8_isSolid_19 : decode cX8_isSolid 19 = .ok (.if_icmp .le 5, 3) := by decide +kernel
theorem dX8_isSolid_22 : decode cX8_isSolid 22 = .ok (.iconst 0, 1) := by decide +kernel
theorem dX8_isSolid_23 : decode cX8_isSolid 23 = .ok (.ireturn, 1) := by decide +kernel
theorem dX8_isSolid_24 : decode cX8_isSolid 24 = .ok (.aload_n 0, 1) := by decide +kernel
theorem dX8_isSolid_25 : decode cX8_isSolid 25 = .ok (.getfield 85, 3) := by decide +kernel
theorem dX8_isSolid_28 : decode cX8_isSolid 28 = .ok (.bipush 12, 2) := by decide +kernel
theorem dX8_isSolid_30 : decode cX8_isSolid 30 = .ok (.iload_n 2, 1) := by decide +kernel
theorem dX8_isSolid_31 : decode cX8_isSolid 31 = .ok (.imul, 1) := by decide +kernel
theorem dX8_isSolid_32 : decode cX8_isSolid 32 = .ok (.iload_n 1, 1) := by decide +kernel
theorem dX8_isSolid_33 : decode cX8_isSolid 33 = .ok (.iadd, 1) := by decide +kernel
theorem dX8_isSolid_34 : decode cX8_isSolid 34 = .ok (.iaload, 1) := by decide +kernel
theorem dX8_isSolid_35 : decode cX8_isSolid 35 = .ok (.istore_n 3, 1) := by decide +kernel
theorem dX8_isSolid_36 : decode cX8_isSolid 36 = .ok (.iload_n 3, 1) := by decide +kernel
theorem dX8_isSolid_37 : decode cX8_isSolid 37 = .ok (.iconst 1, 1) := by decide +kernel
theorem dX8_isSolid_38 : decode cX8_isSolid 38 = .ok (.if_icmp .eq 25, 3) := by decide +kernel
theorem dX8_isSolid_41 : decode cX8_isSolid 41 = .ok (.iload_n 3, 1) := by decide +kernel
theorem dX8_isSolid_42 : decode cX8_isSolid 42 = .ok (.bipush 6, 2) := by decide +kernel
theorem dX8_isSolid_44 : decode cX8_isSolid 44 = .ok (.if_icmp .ge 19, 3) := by decide +kernel
theorem dX8_isSolid_47 : decode cX8_isSolid 47 = .ok (.iload_n 3, 1) := by decide +kernel
theorem dX8_isSolid_48 : decode cX8_isSolid 48 = .ok (.iconst 3, 1) := by decide +kernel
theorem dX8_isSolid_49 : decode cX8_isSolid 49 = .ok (.if_icmp .ne 18, 3) := by decide +kernel
theorem dX8_isSolid_52 : decode cX8_isSolid 52 = .ok (.aload_n 0, 1) := by decide +kernel
theorem dX8_isSolid_53 : decode cX8_isSolid 53 = .ok (.getfield 118, 3) := by decide +kernel
theorem dX8_isSolid_56 : decode cX8_isSolid 56 = .ok (.aload_n 0, 1) := by decide +kernel
theorem dX8_isSolid_57 : decode cX8_isSolid 57 = .ok (.getfield 115, 3) := by decide +kernel
theorem dX8_isSolid_60 : decode cX8_isSolid 60 = .ok (.if_icmp .eq 7, 3) := by decide +kernel
theorem dX8_isSolid_63 : decode cX8_isSolid 63 = .ok (.iconst 1, 1) := by decide +kernel
theorem dX8_isSolid_64 : decode cX8_isSolid 64 = .ok (.goto 4, 3) := by decide +kernel
theorem dX8_isSolid_67 : decode cX8_isSolid 67 = .ok (.iconst 0, 1) := by decide +kernel
theorem dX8_isSolid_68 : decode cX8_isSolid 68 = .ok (.ireturn, 1) := by decide +kernel
theorem dX8_comes_0 : decode cX8_comes 0 = .ok (.iload_n 2, 1) := by decide +kernel
theorem dX8_comes_1 : decode cX8_comes 1 = .ok (.bipush 7, 2) := by decide +kernel
theorem dX8_comes_3 : decode cX8_comes 3 = .ok (.if_icmp .le 9, 3) := by decide +kernel
theorem dX8_comes_6 : decode cX8_comes 6 = .ok (.aload_n 0, 1) := by decide +kernel
theorem dX8_comes_7 : decode cX8_comes 7 = .ok (.iconst 3, 1) := by decide +kernel
theorem dX8_comes_8 : decode cX8_comes 8 = .ok (.putfield 121, 3) := by decide +kernel
theorem dX8_comes_11 : decode cX8_comes 11 = .ok (.return_, 1) := by decide +kernel
theorem dX8_comes_12 : decode cX8_comes 12 = .ok (.aload_n 0, 1) := by decide +kernel
theorem dX8_comes_13 : decode cX8_comes 13 = .ok (.bipush 12, 2) := by decide +kernel
theorem dX8_comes_15 : decode cX8_comes 15 = .ok (.iload_n 2, 1) := by decide +kernel
theorem dX8_comes_16 : decode cX8_comes 16 = .ok (.imul, 1) := by decide +kernel
theorem dX8_comes_17 : decode cX8_comes 17 = .ok (.iload_n 1, 1) := by decide +kernel
theorem dX8_comes_18 : decode cX8_comes 18 = .ok (.iadd, 1) := by decide +kernel
theorem dX8_comes_19 : decode cX8_comes 19 = .ok (.putfield 124, 3) := by decide +kernel
theorem dX8_comes_22 : decode cX8_comes 22 = .ok (.aload_n 0, 1) := by decide +kernel
theorem dX8_comes_23 : decode cX8_comes 23 = .ok (.dup, 1) := by decide +kernel
theorem dX8_comes_24 : decode cX8_comes 24 = .ok (.getfield 118, 3) := by decide +kernel
theorem dX8_comes_27 : decode cX8_comes 27 = .ok (.aload_n 0, 1) := by decide +kernel
theorem dX8_comes_28 : decode cX8_comes 28 = .ok (.getfield 88, 3) := by decide +kernel
theorem dX8_comes_31 : decode cX8_comes 31 = .ok (.aload_n 0, 1) := by decide +kernel
theorem dX8_comes_32 : decode cX8_comes 32 = .ok (.getfield 124, 3) := by decide +kernel
theorem dX8_comes_35 : decode cX8_comes 35 = .ok (.iaload, 1) := by decide +kernel
theorem dX8_comes_36 : decode cX8_comes 36 = .ok (.ior, 1) := by decide +kernel
theorem dX8_comes_37 : decode cX8_comes 37 = .ok (.putfield 118, 3) := by decide +kernel
theorem dX8_comes_40 : decode cX8_comes 40 = .ok (.aload_n 0, 1) := by decide +kernel
theorem dX8_comes_41 : decode cX8_comes 41 = .ok (.aload_n 0, 1) := by decide +kernel
theorem dX8_comes_42 : decode cX8_comes 42 = .ok (.getfield 85, 3) := by decide +kernel
theorem dX8_comes_45 : decode cX8_comes 45 = .ok (.aload_n 0, 1) := by decide +kernel
theorem dX8_comes_46 : decode cX8_comes 46 = .ok (.getfield 124, 3) := by decide +kernel
theorem dX8_comes_49 : decode cX8_comes 49 = .ok (.iaload, 1) := by decide +kernel
theorem dX8_comes_50 : decode cX8_comes 50 = .ok (.iconst 4, 1) := by decide +kernel
theorem dX8_comes_51 : decode cX8_comes 51 = .ok (.if_icmp .ne 7, 3) := by decide +kernel
theorem dX8_comes_54 : decode cX8_comes 54 = .ok (.iconst 3, 1) := by decide +kernel
theorem dX8_comes_55 : decode cX8_comes 55 = .ok (.goto 21, 3) := by decide +kernel
theorem dX8_comes_58 : decode cX8_comes 58 = .ok (.aload_n 0, 1) := by decide +kernel
theorem dX8_comes_59 : decode cX8_comes 59 = .ok (.getfield 85, 3) := by decide +kernel
theorem dX8_comes_62 : decode cX8_comes 62 = .ok (.aload_n 0, 1) := by decide +kernel
theorem dX8_comes_63 : decode cX8_comes 63 = .ok (.getfield 124, 3) := by decide +kernel
theorem dX8_comes_66 : decode cX8_comes 66 = .ok (.iaload, 1) := by decide +kernel
theorem dX8_comes_67 : decode cX8_comes 67 = .ok (.iconst 5, 1) := by decide +kernel
theorem dX8_comes_68 : decode cX8_comes 68 = .ok (.if_icmp .ne 7, 3) := by decide +kernel
theorem dX8_comes_71 : decode cX8_comes 71 = .ok (.iconst 2, 1) := by decide +kernel
theorem dX8_comes_72 : decode cX8_comes 72 = .ok (.goto 4, 3) := by decide +kernel
theorem dX8_comes_75 : decode cX8_comes 75 = .ok (.iconst 1, 1) := by decide +kernel
theorem dX8_comes_76 : decode cX8_comes 76 = .ok (.putfield 121, 3) := by decide +kernel
theorem dX8_comes_79 : decode cX8_comes 79 = .ok (.return_, 1) := by decide +kernel
set_option maxRecDepth 20000 in
theorem ggX8_starts_X8_comes : GoodIn wsX8_starts wsX8_comes := goodIn_r _ [7, 8, 9, 2, 10, 11, 12, 13, 14, 15, 16, 17, 18, 19, 20, 21, 22, 23, 24, 25, 26, 27, 28, 29, 30, 31, 32, 33, 34, 35, 36, 37, 38, 39, 40, 41, 42, 43, 44, 45, 46, 47, 48, 49] (by decide +kernel) (by decide +kernel)
set_option maxRecDepth 20000 in
theorem gX8_starts_X8_comes : GoodIn wsX8_starts (wsV RX8 130 RX8 yX8_comes wsX8_comes) := goodIn_app (goodIn_of _ (by decide +kernel)) ggX8_starts_X8_comes
theorem dX8_starts_0 : decode cX8_starts 0 = .ok (.aload_n 0, 1) := by decide +kernel
theorem dX8_starts_1 : decode cX8_starts 1 = .ok (.iconst 0, 1) := by decide +kernel
theorem dX8_starts_2 : decode cX8_starts 2 = .ok (.putfield 127, 3) := by decide +kernel
theorem dX8_starts_5 : decode cX8_starts 5 = .ok (.aload_n 0, 1) := by decide +kernel
theorem dX8_starts_6 : decode cX8_starts 6 = .ok (.iconst 0, 1) := by decide +kernel
theorem dX8_starts_7 : decode cX8_starts 7 = .ok (.putfield 118, 3) := by decide +kernel
theorem dX8_starts_10 : decode cX8_starts 10 = .ok (.aload_n 0, 1) := by decide +kernel
theorem dX8_starts_11 : decode cX8_starts 11 = .ok (.iload_n 1, 1) := by decide +kernel
theorem dX8_starts_12 : decode cX8_starts 12 = .ok (.bipush 12, 2) := by decide +kernel
theorem dX8_starts_14 : decode cX8_starts 14 = .ok (.irem, 1) := by decide +kernel
theorem dX8_starts_15 : decode cX8_starts 15 = .ok (.iload_n 1, 1) := by decide +kernel
theorem dX8_starts_16 : decode cX8_starts 16 = .ok (.bipush 12, 2) := by decide +kernel
theorem dX8_starts_18 : decode cX8_starts 18 = .ok (.idiv, 1) := by decide +kernel
theorem dX8_starts_19 : decode cX8_starts 19 = .ok (.invokevirtual 130, 3) := by decide +kernel
theorem dX8_starts_22 : decode cX8_starts 22 = .ok (.return_, 1) := by decide +kernel
set_option maxRecDepth 20000 in
theorem ggX8_moves_X8_isSolid : GoodIn wsX8_moves wsX8_isSolid := goodIn_r _ [10, 4, 11, 12, 13, 14, 9, 15, 21, 22, 23, 24, 25, 26, 27, 28, 29, 30, 31, 32, 33, 34, 35, 36, 37, 38, 39, 40, 41, 42, 43, 44, 45, 46, 47, 48, 49, 50, 51, 52, 53, 54, 55, 56, 57, 58] (by decide +kernel) (by decide +kernel)
set_option maxRecDepth 20000 in
theorem gX8_moves_X8_isSolid : GoodIn wsX8_moves (wsV RX8 134 RX8 yX8_isSolid wsX8_isSolid) := goodIn_app (goodIn_of _ (by decide +kernel)) ggX8_moves_X8_isSolid
set_option maxRecDepth 20000 in
theorem ggX8_moves_X8_comes : GoodIn wsX8_moves wsX8_comes := goodIn_r _ [19, 3, 1, 11, 20, 4, 21, 22, 23, 24, 25, 26, 27, 28, 29, 30, 31, 32, 33, 34, 35, 36, 37, 38, 39, 40, 41, 42, 43, 44, 45, 46, 47, 48, 49, 50, 51, 52, 53, 54, 55, 56, 57, 58] (by decide +kernel) (by decide +kernel)
set_option maxRecDepth 20000 in
theorem gX8_moves_X8_comes : GoodIn wsX8_moves (wsV RX8 130 RX8 yX8_comes wsX8_comes) := goodIn_app (goodIn_of _ (by decide +kernel)) ggX8_moves_X8_comes
theorem dX8_moves_0 : decode cX8_moves 0 = .ok (.aload_n 0, 1) := by decide +kernel
theorem dX8_moves_1 : decode cX8_moves 1 = .ok (.getfield 124, 3) := by decide +kernel
theorem dX8_moves_4 : decode cX8_moves 4 = .ok (.bipush 12, 2) := by decide +kernel
theorem dX8_moves_6 : decode cX8_moves 6 = .ok (.irem, 1) := by decide +kernel
theorem dX8_moves_7 : decode cX8_moves 7 = .ok (.istore_n 2, 1) := by decide +kernel
theorem dX8_moves_8 : decode cX8_moves 8 = .ok (.aload_n 0, 1) := by decide +kernel
theorem dX8_moves_9 : decode cX8_moves 9 = .ok (.getfield 127, 3) := by decide +kernel
theorem dX8_moves_12 : decode cX8_moves 12 = .ok (.ifCond .lt 35, 3) := by decide +kernel
theorem dX8_moves_15 : decode cX8_moves 15 = .ok (.aload_n 0, 1) := by decide +kernel
theorem dX8_moves_16 : decode cX8_moves 16 = .ok (.iload_n 2, 1) := by decide +kernel
theorem dX8_moves_17 : decode cX8_moves 17 = .ok (.aload_n 0, 1) := by decide +kernel
theorem dX8_moves_18 : decode cX8_moves 18 = .ok (.getfield 124, 3) := by decide +kernel
theorem dX8_moves_21 : decode cX8_moves 21 = .ok (.bipush 12, 2) := by decide +kernel
theorem dX8_moves_23 : decode cX8_moves 23 = .ok (.idiv, 1) := by decide +kernel
theorem dX8_moves_24 : decode cX8_moves 24 = .ok (.iconst 1, 1) := by decide +kernel
theorem dX8_moves_25 : decode cX8_moves 25 = .ok (.iadd, 1) := by decide +kernel
theorem dX8_moves_26 : decode cX8_moves 26 = .ok (.invokevirtual 134, 3) := by decide +kernel
theorem dX8_moves_29 : decode cX8_moves 29 = .ok (.ifCond .eq 18, 3) := by decide +kernel
theorem dX8_moves_32 : decode cX8_moves 32 = .ok (.aload_n 0, 1) := by decide +kernel
theorem dX8_moves_33 : decode cX8_moves 33 = .ok (.iload_n 1, 1) := by decide +kernel
theorem dX8_moves_34 : decode cX8_moves 34 = .ok (.iconst 2, 1) := by decide +kernel
theorem dX8_moves_35 : decode cX8_moves 35 = .ok (.if_icmp .le 8, 3) := by decide +kernel
theorem dX8_moves_38 : decode cX8_moves 38 = .ok (.bipush (-2), 2) := by decide +kernel
theorem dX8_moves_40 : decode cX8_moves 40 = .ok (.goto 4, 3) := by decide +kernel
theorem dX8_moves_43 : decode cX8_moves 43 = .ok (.iconst 0, 1) := by decide +kernel
theorem dX8_moves_44 : decode cX8_moves 44 = .ok (.putfield 127, 3) := by decide +kernel
theorem dX8_moves_47 : decode cX8_moves 47 = .ok (.iload_n 2, 1) := by decide +kernel
theorem dX8_moves_48 : decode cX8_moves 48 = .ok (.iload_n 1, 1) := by decide +kernel
theorem dX8_moves_49 : decode cX8_moves 49 = .ok (.iconst 3, 1) := by decide +kernel
theorem dX8_moves_50 : decode cX8_moves 50 = .ok (.irem, 1) := by decide +kernel
theorem dX8_moves_51 : decode cX8_moves 51 = .ok (.iadd, 1) := by decide +kernel
theorem dX8_moves_52 : decode cX8_moves 52 = .ok (.iconst 1, 1) := by decide +kernel
theorem dX8_moves_53 : decode cX8_moves 53 = .ok (.isub, 1) := by decide +kernel
theorem dX8_moves_54 : decode cX8_moves 54 = .ok (.istore_n 3, 1) := by decide +kernel
theorem dX8_moves_55 : decode cX8_moves 55 = .ok (.iload_n 3, 1) := by decide +kernel
theorem dX8_moves_56 : decode cX8_moves 56 = .ok (.iload_n 2, 1) := by decide +kernel
theorem dX8_moves_57 : decode cX8_moves 57 = .ok (.if_icmp .eq 32, 3) := by decide +kernel
theorem dX8_moves_60 : decode cX8_moves 60 = .ok (.aload_n 0, 1) := by decide +kernel
theorem dX8_moves_61 : decode cX8_moves 61 = .ok (.iload_n 3, 1) := by decide +kernel
theorem dX8_moves_62 : decode cX8_moves 62 = .ok (.aload_n 0, 1) := by decide +kernel
theorem dX8_moves_63 : decode cX8_moves 63 = .ok (.getfield 124, 3) := by decide +kernel
theorem dX8_moves_66 : decode cX8_moves 66 = .ok (.bipush 12, 2) := by decide +kernel
theorem dX8_moves_68 : decode cX8_moves 68 = .ok (.idiv, 1) := by decide +kernel
theorem dX8_moves_69 : decode cX8_moves 69 = .ok (.invokevirtual 134, 3) := by decide +kernel
theorem dX8_moves_72 : decode cX8_moves 72 = .ok (.ifCond .ne 17, 3) := by decide +kernel
theorem dX8_moves_75 : decode cX8_moves 75 = .ok (.iload_n 3, 1) := by decide +kernel
theorem dX8_moves_76 : decode cX8_moves 76 = .ok (.istore_n 2, 1) := by decide +kernel
theorem dX8_moves_77 : decode cX8_moves 77 = .ok (.aload_n 0, 1) := by decide +kernel
theorem dX8_moves_78 : decode cX8_moves 78 = .ok (.iload_n 2, 1) := by decide +kernel
theorem dX8_moves_79 : decode cX8_moves 79 = .ok (.aload_n 0, 1) := by decide +kernel
theorem dX8_moves_80 : decode cX8_moves 80 = .ok (.getfield 124, 3) := by decide +kernel
theorem dX8_moves_83 : decode cX8_moves 83 = .ok (.bipush 12, 2) := by decide +kernel
theorem dX8_moves_85 : decode cX8_moves 85 = .ok (.idiv, 1) := by decide +kernel
theorem dX8_moves_86 : decode cX8_moves 86 = .ok (.invokevirtual 130, 3) := by decide +kernel
theorem dX8_moves_89 : decode cX8_moves 89 = .ok (.aload_n 0, 1) := by decide +kernel
theorem dX8_moves_90 : decode cX8_moves 90 = .ok (.getfield 127, 3) := by decide +kernel
theorem dX8_moves_93 : decode cX8_moves 93 = .ok (.ifCond .ge 7, 3) := by decide +kernel
theorem dX8_moves_96 : decode cX8_moves 96 = .ok (.iconst (-1), 1) := by decide +kernel
theorem dX8_moves_97 : decode cX8_moves 97 = .ok (.goto 4, 3) := by decide +kernel
theorem dX8_moves_100 : decode cX8_moves 100 = .ok (.iconst 1, 1) := by decide +kernel
theorem dX8_moves_101 : decode cX8_moves 101 = .ok (.istore 4, 2) := by decide +kernel
theorem dX8_moves_103 : decode cX8_moves 103 = .ok (.iconst 0, 1) := by decide +kernel
theorem dX8_moves_104 : decode cX8_moves 104 = .ok (.istore 5, 2) := by decide +kernel
theorem dX8_moves_106 : decode cX8_moves 106 = .ok (.aload_n 0, 1) := by decide +kernel
theorem dX8_moves_107 : decode cX8_moves 107 = .ok (.getfield 127, 3) := by decide +kernel
theorem dX8_moves_110 : decode cX8_moves 110 = .ok (.iload 4, 2) := by decide +kernel
theorem dX8_moves_112 : decode cX8_moves 112 = .ok (.imul, 1) := by decide +kernel
theorem dX8_moves_113 : decode cX8_moves 113 = .ok (.istore 6, 2) := by decide +kernel
theorem dX8_moves_115 : decode cX8_moves 115 = .ok (.iload 6, 2) := by decide +kernel
theorem dX8_moves_117 : decode cX8_moves 117 = .ok (.ifCond .le 59, 3) := by decide +kernel
theorem dX8_moves_120 : decode cX8_moves 120 = .ok (.aload_n 0, 1) := by decide +kernel
theorem dX8_moves_121 : decode cX8_moves 121 = .ok (.getfield 121, 3) := by decide +kernel
theorem dX8_moves_124 : decode cX8_moves 124 = .ok (.iconst 1, 1) := by decide +kernel
theorem dX8_moves_125 : decode cX8_moves 125 = .ok (.if_icmp .ne 51, 3) := by decide +kernel
theorem dX8_moves_128 : decode cX8_moves 128 = .ok (.iload 5, 2) := by decide +kernel
theorem dX8_moves_130 : decode cX8_moves 130 = .ok (.ifCond .ne 46, 3) := by decide +kernel
theorem dX8_moves_133 : decode cX8_moves 133 = .ok (.aload_n 0, 1) := by decide +kernel
theorem dX8_moves_134 : decode cX8_moves 134 = .ok (.iload_n 2, 1) := by decide +kernel
theorem dX8_moves_135 : decode cX8_moves 135 = .ok (.aload_n 0, 1) := by decide +kernel
theorem dX8_moves_136 : decode cX8_moves 136 = .ok (.getfield 124, 3) := by decide +kernel
theorem dX8_moves_139 : decode cX8_moves 139 = .ok (.bipush 12, 2) := by decide +kernel
theorem dX8_moves_141 : decode cX8_moves 141 = .ok (.idiv, 1) := by decide +kernel
theorem dX8_moves_142 : decode cX8_moves 142 = .ok (.iload 4, 2) := by decide +kernel
theorem dX8_moves_144 : decode cX8_moves 144 = .ok (.iadd, 1) := by decide +kernel
theorem dX8_moves_145 : decode cX8_moves 145 = .ok (.invokevirtual 134, 3) := by decide +kernel
theorem dX8_moves_148 : decode cX8_moves 148 = .ok (.istore 5, 2) := by decide +kernel
theorem dX8_moves_150 : decode cX8_moves 150 = .ok (.iload 5, 2) := by decide +kernel
theorem dX8_moves_152 : decode cX8_moves 152 = .ok (.ifCond .ne 18, 3) := by decide +kernel
theorem dX8_moves_155 : decode cX8_moves 155 = .ok (.aload_n 0, 1) := by decide +kernel
theorem dX8_moves_156 : decode cX8_moves 156 = .ok (.iload_n 2, 1) := by decide +kernel
theorem dX8_moves_157 : decode cX8_moves 157 = .ok (.aload_n 0, 1) := by decide +kernel
theorem dX8_moves_158 : decode cX8_moves 158 = .ok (.getfield 124, 3) := by decide +kernel
theorem dX8_moves_161 : decode cX8_moves 161 = .ok (.bipush 12, 2) := by decide +kernel
theorem dX8_moves_163 : decode cX8_moves 163 = .ok (.idiv, 1) := by decide +kernel
theorem dX8_moves_164 : decode cX8_moves 164 = .ok (.iload 4, 2) := by decide +kernel
theorem dX8_moves_166 : decode cX8_moves 166 = .ok (.iadd, 1) := by decide +kernel
theorem dX8_moves_167 : decode cX8_moves 167 = .ok (.invokevirtual 130, 3) := by decide +kernel
theorem dX8_moves_170 : decode cX8_moves 170 = .ok (.iinc 6 (-1), 3) := by decide +kernel
theorem dX8_moves_173 : decode cX8_moves 173 = .ok (.goto (-58), 3) := by decide +kernel
theorem dX8_moves_176 : decode cX8_moves 176 = .ok (.aload_n 0, 1) := by decide +kernel
theorem dX8_moves_177 : decode cX8_moves 177 = .ok (.getfield 121, 3) := by decide +kernel
theorem dX8_moves_180 : decode cX8_moves 180 = .ok (.iconst 1, 1) := by decide +kernel
theorem dX8_moves_181 : decode cX8_moves 181 = .ok (.if_icmp .eq 4, 3) := by decide +kernel
theorem dX8_moves_184 : decode cX8_moves 184 = .ok (.return_, 1) := by decide +kernel
theorem dX8_moves_185 : decode cX8_moves 185 = .ok (.iload 5, 2) := by decide +kernel
theorem dX8_moves_187 : decode cX8_moves 187 = .ok (.ifCond .eq 23, 3) := by decide +kernel
theorem dX8_moves_190 : decode cX8_moves 190 = .ok (.iload 4, 2) := by decide +kernel
theorem dX8_moves_192 : decode cX8_moves 192 = .ok (.ifCond .le 18, 3) := by decide +kernel
theorem dX8_moves_195 : decode cX8_moves 195 = .ok (.aload_n 0, 1) := by decide +kernel
theorem dX8_moves_196 : decode cX8_moves 196 = .ok (.getfield 85, 3) := by decide +kernel
theorem dX8_moves_199 : decode cX8_moves 199 = .ok (.aload_n 0, 1) := by decide +kernel
theorem dX8_moves_200 : decode cX8_moves 200 = .ok (.getfield 124, 3) := by decide +kernel
theorem dX8_moves_203 : decode cX8_moves 203 = .ok (.bipush 12, 2) := by decide +kernel
theorem dX8_moves_205 : decode cX8_moves 205 = .ok (.iadd, 1) := by decide +kernel
theorem dX8_moves_206 : decode cX8_moves 206 = .ok (.iaload, 1) := by decide +kernel
theorem dX8_moves_207 : decode cX8_moves 207 = .ok (.goto 4, 3) := by decide +kernel
theorem dX8_moves_210 : decode cX8_moves 210 = .ok (.iconst 0, 1) := by decide +kernel
theorem dX8_moves_211 : decode cX8_moves 211 = .ok (.istore 6, 2) := by decide +kernel
theorem dX8_moves_213 : decode cX8_moves 213 = .ok (.aload_n 0, 1) := by decide +kernel
theorem dX8_moves_214 : decode cX8_moves 214 = .ok (.getfield 127, 3) := by decide +kernel
theorem dX8_moves_217 : decode cX8_moves 217 = .ok (.iconst 3, 1) := by decide +kernel
theorem dX8_moves_218 : decode cX8_moves 218 = .ok (.if_icmp .ge 12, 3) := by decide +kernel
theorem dX8_moves_221 : decode cX8_moves 221 = .ok (.aload_n 0, 1) := by decide +kernel
theorem dX8_moves_222 : decode cX8_moves 222 = .ok (.getfield 127, 3) := by decide +kernel
theorem dX8_moves_225 : decode cX8_moves 225 = .ok (.iconst 1, 1) := by decide +kernel
theorem dX8_moves_226 : decode cX8_moves 226 = .ok (.iadd, 1) := by decide +kernel
theorem dX8_moves_227 : decode cX8_moves 227 = .ok (.goto 4, 3) := by decide +kernel
theorem dX8_moves_230 : decode cX8_moves 230 = .ok (.iconst 3, 1) := by decide +kernel
theorem dX8_moves_231 : decode cX8_moves 231 = .ok (.istore 7, 2) := by decide +kernel
theorem dX8_moves_233 : decode cX8_moves 233 = .ok (.aload_n 0, 1) := by decide +kernel
theorem dX8_moves_234 : decode cX8_moves 234 = .ok (.iload 5, 2) := by decide +kernel
theorem dX8_moves_236 : decode cX8_moves 236 = .ok (.ifCond .ne 8, 3) := by decide +kernel
theorem dX8_moves_239 : decode cX8_moves 239 = .ok (.iload 7, 2) := by decide +kernel
theorem dX8_moves_241 : decode cX8_moves 241 = .ok (.goto 25, 3) := by decide +kernel
theorem dX8_moves_244 : decode cX8_moves 244 = .ok (.iload 6, 2) := by decide +kernel
theorem dX8_moves_246 : decode cX8_moves 246 = .ok (.bipush 6, 2) := by decide +kernel
theorem dX8_moves_248 : decode cX8_moves 248 = .ok (.if_icmp .lt 17, 3) := by decide +kernel
theorem dX8_moves_251 : decode cX8_moves 251 = .ok (.aload_n 0, 1) := by decide +kernel
theorem dX8_moves_252 : decode cX8_moves 252 = .ok (.getfield 7, 3) := by decide +kernel
theorem dX8_moves_255 : decode cX8_moves 255 = .ok (.iload 6, 2) := by decide +kernel
theorem dX8_moves_257 : decode cX8_moves 257 = .ok (.bipush 6, 2) := by decide +kernel
theorem dX8_moves_259 : decode cX8_moves 259 = .ok (.isub, 1) := by decide +kernel
theorem dX8_moves_260 : decode cX8_moves 260 = .ok (.iaload, 1) := by decide +kernel
theorem dX8_moves_261 : decode cX8_moves 261 = .ok (.ineg, 1) := by decide +kernel
theorem dX8_moves_262 : decode cX8_moves 262 = .ok (.goto 4, 3) := by decide +kernel
theorem dX8_moves_265 : decode cX8_moves 265 = .ok (.iconst 0, 1) := by decide +kernel
theorem dX8_moves_266 : decode cX8_moves 266 = .ok (.putfield 127, 3) := by decide +kernel
theorem dX8_moves_269 : decode cX8_moves 269 = .ok (.return_, 1) := by decide +kernel
theorem dX8_code_0 : decode cX8_code 0 = .ok (.bipush 64, 2) := by decide +kernel
theorem dX8_code_2 : decode cX8_code 2 = .ok (.aload_n 0, 1) := by decide +kernel
theorem dX8_code_3 : decode cX8_code 3 = .ok (.getfield 124, 3) := by decide +kernel
theorem dX8_code_6 : decode cX8_code 6 = .ok (.imul, 1) := by decide +kernel
theorem dX8_code_7 : decode cX8_code 7 = .ok (.bipush 8, 2) := by decide +kernel
theorem dX8_code_9 : decode cX8_code 9 = .ok (.aload_n 0, 1) := by decide +kernel
theorem dX8_code_10 : decode cX8_code 10 = .ok (.getfield 127, 3) := by decide +kernel
theorem dX8_code_13 : decode cX8_code 13 = .ok (.iconst 4, 1) := by decide +kernel
theorem dX8_code_14 : decode cX8_code 14 = .ok (.iadd, 1) := by decide +kernel
theorem dX8_code_15 : decode cX8_code 15 = .ok (.imul, 1) := by decide +kernel
theorem dX8_code_16 : decode cX8_code 16 = .ok (.iadd, 1) := by decide +kernel
theorem dX8_code_17 : decode cX8_code 17 = .ok (.aload_n 0, 1) := by decide +kernel
theorem dX8_code_18 : decode cX8_code 18 = .ok (.getfield 118, 3) := by decide +kernel
theorem dX8_code_21 : decode cX8_code 21 = .ok (.iadd, 1) := by decide +kernel
theorem dX8_code_22 : decode cX8_code 22 = .ok (.ireturn, 1) := by decide +kernel
set_option maxRecDepth 20000 in
theorem ggX8_searches_X8_starts : GoodIn wsX8_searches wsX8_starts := goodIn_r _ [12, 6, 7, 13, 14, 15, 11, 16, 3, 5, 17, 18, 36, 37, 38, 39, 40, 41, 42, 43, 44, 45, 46, 47, 48, 49, 50, 51, 52, 53, 54, 55, 56, 57, 58, 59, 60, 61, 62, 63, 64, 65, 66, 67, 68, 69, 70, 71, 72, 73] (by decide +kernel) (by decide +kernel)
set_option maxRecDepth 20000 in
theorem gX8_searches_X8_starts : GoodIn wsX8_searches (wsV RX8 138 RX8 yX8_starts wsX8_starts) := goodIn_app (goodIn_of _ (by decide +kernel)) ggX8_searches_X8_starts
set_option maxRecDepth 20000 in
theorem ggX8_searches_X8_code : GoodIn wsX8_searches wsX8_code := goodIn_r _ [22, 5, 6, 7, 36, 37, 38, 39, 40, 41, 42, 43, 44, 45, 46, 47, 48, 49, 50, 51, 52, 53, 54, 55, 56, 57, 58, 59, 60, 61, 62, 63, 64, 65, 66, 67, 68, 69, 70, 71, 72, 73] (by decide +kernel) (by decide +kernel)
set_option maxRecDepth 20000 in
theorem gX8_searches_X8_code : GoodIn wsX8_searches (wsV RX8 142 RX8 yX8_code wsX8_code) := goodIn_app (goodIn_of _ (by decide +kernel)) ggX8_searches_X8_code
set_option maxRecDepth 20000 in
theorem ggX8_searches_X8_moves : GoodIn wsX8_searches wsX8_moves := goodIn_r _ [26, 5, 6, 3, 18, 27, 28, 29, 30, 11, 31, 7, 32, 33, 34, 35, 13, 14, 15, 16, 17, 36, 37, 38, 39, 40, 41, 42, 43, 44, 45, 46, 47, 48, 49, 50, 51, 52, 53, 54, 55, 56, 57, 58, 59, 60, 61, 62, 63, 64, 65, 66, 67, 68, 69, 70, 71, 72, 73] (by decide +kernel) (by decide +kernel)
set_option maxRecDepth 20000 in
theorem gX8_searches_X8_moves : GoodIn wsX8_searches (wsV RX8 146 RX8 yX8_moves wsX8_moves) := goodIn_app (goodIn_of _ (by decide +kernel)) ggX8_searches_X8_moves
theorem dX8_searches_0 : decode cX8_searches 0 = .ok (.iconst (-1), 1) := by decide +kernel
theorem dX8_searches_1 : decode cX8_searches 1 = .ok (.istore_n 2, 1) := by decide +kernel
theorem dX8_searches_2 : decode cX8_searches 2 = .ok (.iconst 0, 1) := by decide +kernel
theorem dX8_searches_3 : decode cX8_searches 3 = .ok (.istore_n 3, 1) := by decide +kernel
theorem dX8_searches_4 : decode cX8_searches 4 = .ok (.iconst 0, 1) := by decide +kernel
theorem dX8_searches_5 : decode cX8_searches 5 = .ok (.istore 4, 2) := by decide +kernel
theorem dX8_searches_7 : decode cX8_searches 7 = .ok (.iload 4, 2) := by decide +kernel
theorem dX8_searches_9 : decode cX8_searches 9 = .ok (.sipush 6144, 3) := by decide +kernel
theorem dX8_searches_12 : decode cX8_searches 12 = .ok (.if_icmp .ge 17, 3) := by decide +kernel
theorem dX8_searches_15 : decode cX8_searches 15 = .ok (.aload_n 0, 1) := by decide +kernel
theorem dX8_searches_16 : decode cX8_searches 16 = .ok (.getfield 94, 3) := by decide +kernel
theorem dX8_searches_19 : decode cX8_searches 19 = .ok (.iload 4, 2) := by decide +kernel
theorem dX8_searches_21 : decode cX8_searches 21 = .ok (.iconst (-1), 1) := by decide +kernel
theorem dX8_searches_22 : decode cX8_searches 22 = .ok (.iastore, 1) := by decide +kernel
theorem dX8_searches_23 : decode cX8_searches 23 = .ok (.iinc 4 1, 3) := by decide +kernel
theorem dX8_searches_26 : decode cX8_searches 26 = .ok (.goto (-19), 3) := by decide +kernel
theorem dX8_searches_29 : decode cX8_searches 29 = .ok (.iconst 0, 1) := by decide +kernel
theorem dX8_searches_30 : decode cX8_searches 30 = .ok (.istore 4, 2) := by decide +kernel
theorem dX8_searches_32 : decode cX8_searches 32 = .ok (.iload 4, 2) := by decide +kernel
theorem dX8_searches_34 : decode cX8_searches 34 = .ok (.bipush 96, 2) := by decide +kernel
theorem dX8_searches_36 : decode cX8_searches 36 = .ok (.if_icmp .ge 17, 3) := by decide +kernel
theorem dX8_searches_39 : decode cX8_searches 39 = .ok (.aload_n 0, 1) := by decide +kernel
theorem dX8_searches_40 : decode cX8_searches 40 = .ok (.getfield 97, 3) := by decide +kernel
theorem dX8_searches_43 : decode cX8_searches 43 = .ok (.iload 4, 2) := by decide +kernel
theorem dX8_searches_45 : decode cX8_searches 45 = .ok (.iconst 0, 1) := by decide +kernel
theorem dX8_searches_46 : decode cX8_searches 46 = .ok (.bastore, 1) := by decide +kernel
theorem dX8_searches_47 : decode cX8_searches 47 = .ok (.iinc 4 1, 3) := by decide +kernel
theorem dX8_searches_50 : decode cX8_searches 50 = .ok (.goto (-18), 3) := by decide +kernel
theorem dX8_searches_53 : decode cX8_searches 53 = .ok (.aload_n 0, 1) := by decide +kernel
theorem dX8_searches_54 : decode cX8_searches 54 = .ok (.iload_n 1, 1) := by decide +kernel
theorem dX8_searches_55 : decode cX8_searches 55 = .ok (.invokevirtual 138, 3) := by decide +kernel
theorem dX8_searches_58 : decode cX8_searches 58 = .ok (.aload_n 0, 1) := by decide +kernel
theorem dX8_searches_59 : decode cX8_searches 59 = .ok (.getfield 121, 3) := by decide +kernel
theorem dX8_searches_62 : decode cX8_searches 62 = .ok (.iconst 3, 1) := by decide +kernel
theorem dX8_searches_63 : decode cX8_searches 63 = .ok (.if_icmp .eq 24, 3) := by decide +kernel
theorem dX8_searches_66 : decode cX8_searches 66 = .ok (.aload_n 0, 1) := by decide +kernel
theorem dX8_searches_67 : decode cX8_searches 67 = .ok (.getfield 97, 3) := by decide +kernel
theorem dX8_searches_70 : decode cX8_searches 70 = .ok (.iload_n 1, 1) := by decide +kernel
theorem dX8_searches_71 : decode cX8_searches 71 = .ok (.iconst 1, 1) := by decide +kernel
theorem dX8_searches_72 : decode cX8_searches 72 = .ok (.bastore, 1) := by decide +kernel
theorem dX8_searches_73 : decode cX8_searches 73 = .ok (.aload_n 0, 1) := by decide +kernel
theorem dX8_searches_74 : decode cX8_searches 74 = .ok (.getfield 121, 3) := by decide +kernel
theorem dX8_searches_77 : decode cX8_searches 77 = .ok (.iconst 2, 1) := by decide +kernel
theorem dX8_searches_78 : decode cX8_searches 78 = .ok (.if_icmp .ne 7, 3) := by decide +kernel
theorem dX8_searches_81 : decode cX8_searches 81 = .ok (.iconst 0, 1) := by decide +kernel
theorem dX8_searches_82 : decode cX8_searches 82 = .ok (.goto 4, 3) := by decide +kernel
theorem dX8_searches_85 : decode cX8_searches 85 = .ok (.iconst (-1), 1) := by decide +kernel
theorem dX8_searches_86 : decode cX8_searches 86 = .ok (.istore_n 2, 1) := by decide +kernel
theorem dX8_searches_87 : decode cX8_searches 87 = .ok (.aload_n 0, 1) := by decide +kernel
theorem dX8_searches_88 : decode cX8_searches 88 = .ok (.getfield 121, 3) := by decide +kernel
theorem dX8_searches_91 : decode cX8_searches 91 = .ok (.iconst 1, 1) := by decide +kernel
theorem dX8_searches_92 : decode cX8_searches 92 = .ok (.if_icmp .ne 27, 3) := by decide +kernel
theorem dX8_searches_95 : decode cX8_searches 95 = .ok (.aload_n 0, 1) := by decide +kernel
theorem dX8_searches_96 : decode cX8_searches 96 = .ok (.getfield 91, 3) := by decide +kernel
theorem dX8_searches_99 : decode cX8_searches 99 = .ok (.iconst 0, 1) := by decide +kernel
theorem dX8_searches_100 : decode cX8_searches 100 = .ok (.aload_n 0, 1) := by decide +kernel
theorem dX8_searches_101 : decode cX8_searches 101 = .ok (.invokevirtual 142, 3) := by decide +kernel
theorem dX8_searches_104 : decode cX8_searches 104 = .ok (.iastore, 1) := by decide +kernel
theorem dX8_searches_105 : decode cX8_searches 105 = .ok (.aload_n 0, 1) := by decide +kernel
theorem dX8_searches_106 : decode cX8_searches 106 = .ok (.getfield 94, 3) := by decide +kernel
theorem dX8_searches_109 : decode cX8_searches 109 = .ok (.aload_n 0, 1) := by decide +kernel
theorem dX8_searches_110 : decode cX8_searches 110 = .ok (.getfield 91, 3) := by decide +kernel
theorem dX8_searches_113 : decode cX8_searches 113 = .ok (.iconst 0, 1) := by decide +kernel
theorem dX8_searches_114 : decode cX8_searches 114 = .ok (.iaload, 1) := by decide +kernel
theorem dX8_searches_115 : decode cX8_searches 115 = .ok (.iconst 0, 1) := by decide +kernel
theorem dX8_searches_116 : decode cX8_searches 116 = .ok (.iastore, 1) := by decide +kernel
theorem dX8_searches_117 : decode cX8_searches 117 = .ok (.iconst 1, 1) := by decide +kernel
theorem dX8_searches_118 : decode cX8_searches 118 = .ok (.istore_n 3, 1) := by decide +kernel
theorem dX8_searches_119 : decode cX8_searches 119 = .ok (.iconst 0, 1) := by decide +kernel
theorem dX8_searches_120 : decode cX8_searches 120 = .ok (.istore 4, 2) := by decide +kernel
theorem dX8_searches_122 : decode cX8_searches 122 = .ok (.iload 4, 2) := by decide +kernel
theorem dX8_searches_124 : decode cX8_searches 124 = .ok (.iload_n 3, 1) := by decide +kernel
theorem dX8_searches_125 : decode cX8_searches 125 = .ok (.if_icmp .ge 186, 3) := by decide +kernel
theorem dX8_searches_128 : decode cX8_searches 128 = .ok (.iconst 0, 1) := by decide +kernel
theorem dX8_searches_129 : decode cX8_searches 129 = .ok (.istore 5, 2) := by decide +kernel
theorem dX8_searches_131 : decode cX8_searches 131 = .ok (.iload 5, 2) := by decide +kernel
theorem dX8_searches_133 : decode cX8_searches 133 = .ok (.bipush 6, 2) := by decide +kernel
theorem dX8_searches_135 : decode cX8_searches 135 = .ok (.if_icmp .ge 170, 3) := by decide +kernel
theorem dX8_searches_138 : decode cX8_searches 138 = .ok (.aload_n 0, 1) := by decide +kernel
theorem dX8_searches_139 : decode cX8_searches 139 = .ok (.aload_n 0, 1) := by decide +kernel
theorem dX8_searches_140 : decode cX8_searches 140 = .ok (.getfield 91, 3) := by decide +kernel
theorem dX8_searches_143 : decode cX8_searches 143 = .ok (.iload 4, 2) := by decide +kernel
theorem dX8_searches_145 : decode cX8_searches 145 = .ok (.iaload, 1) := by decide +kernel
theorem dX8_searches_146 : decode cX8_searches 146 = .ok (.bipush 64, 2) := by decide +kernel
theorem dX8_searches_148 : decode cX8_searches 148 = .ok (.idiv, 1) := by decide +kernel
theorem dX8_searches_149 : decode cX8_searches 149 = .ok (.putfield 124, 3) := by decide +kernel
theorem dX8_searches_152 : decode cX8_searches 152 = .ok (.aload_n 0, 1) := by decide +kernel
theorem dX8_searches_153 : decode cX8_searches 153 = .ok (.aload_n 0, 1) := by decide +kernel
theorem dX8_searches_154 : decode cX8_searches 154 = .ok (.getfield 91, 3) := by decide +kernel
theorem dX8_searches_157 : decode cX8_searches 157 = .ok (.iload 4, 2) := by decide +kernel
theorem dX8_searches_159 : decode cX8_searches 159 = .ok (.iaload, 1) := by decide +kernel
theorem dX8_searches_160 : decode cX8_searches 160 = .ok (.bipush 8, 2) := by decide +kernel
theorem dX8_searches_162 : decode cX8_searches 162 = .ok (.idiv, 1) := by decide +kernel
theorem dX8_searches_163 : decode cX8_searches 163 = .ok (.bipush 8, 2) := by decide +kernel
theorem dX8_searches_165 : decode cX8_searches 165 = .ok (.irem, 1) := by decide +kernel
theorem dX8_searches_166 : decode cX8_searches 166 = .ok (.iconst 4, 1) := by decide +kernel
theorem dX8_searches_167 : decode cX8_searches 167 = .ok (.isub, 1) := by decide +kernel
theorem dX8_searches_168 : decode cX8_searches 168 = .ok (.putfield 127, 3) := by decide +kernel
theorem dX8_searches_171 : decode cX8_searches 171 = .ok (.aload_n 0, 1) := by decide +kernel
theorem dX8_searches_172 : decode cX8_searches 172 = .ok (.aload_n 0, 1) := by decide +kernel
theorem dX8_searches_173 : decode cX8_searches 173 = .ok (.getfield 91, 3) := by decide +kernel
theorem dX8_searches_176 : decode cX8_searches 176 = .ok (.iload 4, 2) := by decide +kernel
theorem dX8_searches_178 : decode cX8_searches 178 = .ok (.iaload, 1) := by decide +kernel
theorem dX8_searches_179 : decode cX8_searches 179 = .ok (.bipush 8, 2) := by decide +kernel
theorem dX8_searches_181 : decode cX8_searches 181 = .ok (.irem, 1) := by decide +kernel
theorem dX8_searches_182 : decode cX8_searches 182 = .ok (.putfield 118, 3) := by decide +kernel
theorem dX8_searches_185 : decode cX8_searches 185 = .ok (.aload_n 0, 1) := by decide +kernel
theorem dX8_searches_186 : decode cX8_searches 186 = .ok (.iconst 1, 1) := by decide +kernel
theorem dX8_searches_187 : decode cX8_searches 187 = .ok (.putfield 121, 3) := by decide +kernel
theorem dX8_searches_190 : decode cX8_searches 190 = .ok (.aload_n 0, 1) := by decide +kernel
theorem dX8_searches_191 : decode cX8_searches 191 = .ok (.iload 5, 2) := by decide +kernel
theorem dX8_searches_193 : decode cX8_searches 193 = .ok (.invokevirtual 146, 3) := by decide +kernel
theorem dX8_searches_196 : decode cX8_searches 196 = .ok (.aload_n 0, 1) := by decide +kernel
theorem dX8_searches_197 : decode cX8_searches 197 = .ok (.getfield 121, 3) := by decide +kernel
theorem dX8_searches_200 : decode cX8_searches 200 = .ok (.iconst 3, 1) := by decide +kernel
theorem dX8_searches_201 : decode cX8_searches 201 = .ok (.if_icmp .eq 13, 3) := by decide +kernel
theorem dX8_searches_204 : decode cX8_searches 204 = .ok (.aload_n 0, 1) := by decide +kernel
theorem dX8_searches_205 : decode cX8_searches 205 = .ok (.getfield 97, 3) := by decide +kernel
theorem dX8_searches_208 : decode cX8_searches 208 = .ok (.aload_n 0, 1) := by decide +kernel
theorem dX8_searches_209 : decode cX8_searches 209 = .ok (.getfield 124, 3) := by decide +kernel
theorem dX8_searches_212 : decode cX8_searches 212 = .ok (.iconst 1, 1) := by decide +kernel
theorem dX8_searches_213 : decode cX8_searches 213 = .ok (.bastore, 1) := by decide +kernel
theorem dX8_searches_214 : decode cX8_searches 214 = .ok (.aload_n 0, 1) := by decide +kernel
theorem dX8_searches_215 : decode cX8_searches 215 = .ok (.getfield 121, 3) := by decide +kernel
theorem dX8_searches_218 : decode cX8_searches 218 = .ok (.iconst 2, 1) := by decide +kernel
theorem dX8_searches_219 : decode cX8_searches 219 = .ok (.if_icmp .ne 23, 3) := by decide +kernel
theorem dX8_searches_222 : decode cX8_searches 222 = .ok (.iload_n 2, 1) := by decide +kernel
theorem dX8_searches_223 : decode cX8_searches 223 = .ok (.iconst (-1), 1) := by decide +kernel
theorem dX8_searches_224 : decode cX8_searches 224 = .ok (.if_icmp .ne 18, 3) := by decide +kernel
theorem dX8_searches_227 : decode cX8_searches 227 = .ok (.aload_n 0, 1) := by decide +kernel
theorem dX8_searches_228 : decode cX8_searches 228 = .ok (.getfield 94, 3) := by decide +kernel
theorem dX8_searches_231 : decode cX8_searches 231 = .ok (.aload_n 0, 1) := by decide +kernel
theorem dX8_searches_232 : decode cX8_searches 232 = .ok (.getfield 91, 3) := by decide +kernel
theorem dX8_searches_235 : decode cX8_searches 235 = .ok (.iload 4, 2) := by decide +kernel
theorem dX8_searches_237 : decode cX8_searches 237 = .ok (.iaload, 1) := by decide +kernel
theorem dX8_searches_238 : decode cX8_searches 238 = .ok (.iaload, 1) := by decide +kernel
theorem dX8_searches_239 : decode cX8_searches 239 = .ok (.iconst 1, 1) := by decide +kernel
theorem dX8_searches_240 : decode cX8_searches 240 = .ok (.iadd, 1) := by decide +kernel
theorem dX8_searches_241 : decode cX8_searches 241 = .ok (.istore_n 2, 1) := by decide +kernel
theorem dX8_searches_242 : decode cX8_searches 242 = .ok (.aload_n 0, 1) := by decide +kernel
theorem dX8_searches_243 : decode cX8_searches 243 = .ok (.getfield 121, 3) := by decide +kernel
theorem dX8_searches_246 : decode cX8_searches 246 = .ok (.iconst 1, 1) := by decide +kernel
theorem dX8_searches_247 : decode cX8_searches 247 = .ok (.if_icmp .ne 52, 3) := by decide +kernel
theorem dX8_searches_250 : decode cX8_searches 250 = .ok (.aload_n 0, 1) := by decide +kernel
theorem dX8_searches_251 : decode cX8_searches 251 = .ok (.getfield 94, 3) := by decide +kernel
theorem dX8_searches_254 : decode cX8_searches 254 = .ok (.aload_n 0, 1) := by decide +kernel
theorem dX8_searches_255 : decode cX8_searches 255 = .ok (.invokevirtual 142, 3) := by decide +kernel
theorem dX8_searches_258 : decode cX8_searches 258 = .ok (.iaload, 1) := by decide +kernel
theorem dX8_searches_259 : decode cX8_searches 259 = .ok (.iconst (-1), 1) := by decide +kernel
theorem dX8_searches_260 : decode cX8_searches 260 = .ok (.if_icmp .ne 39, 3) := by decide +kernel
theorem dX8_searches_263 : decode cX8_searches 263 = .ok (.aload_n 0, 1) := by decide +kernel
theorem dX8_searches_264 : decode cX8_searches 264 = .ok (.getfield 94, 3) := by decide +kernel
theorem dX8_searches_267 : decode cX8_searches 267 = .ok (.aload_n 0, 1) := by decide +kernel
theorem dX8_searches_268 : decode cX8_searches 268 = .ok (.invokevirtual 142, 3) := by decide +kernel
theorem dX8_searches_271 : decode cX8_searches 271 = .ok (.aload_n 0, 1) := by decide +kernel
theorem dX8_searches_272 : decode cX8_searches 272 = .ok (.getfield 94, 3) := by decide +kernel
theorem dX8_searches_275 : decode cX8_searches 275 = .ok (.aload_n 0, 1) := by decide +kernel
theorem dX8_searches_276 : decode cX8_searches 276 = .ok (.getfield 91, 3) := by decide +kernel
theorem dX8_searches_279 : decode cX8_searches 279 = .ok (.iload 4, 2) := by decide +kernel
theorem dX8_searches_281 : decode cX8_searches 281 = .ok (.iaload, 1) := by decide +kernel
theorem dX8_searches_282 : decode cX8_searches 282 = .ok (.iaload, 1) := by decide +kernel
theorem dX8_searches_283 : decode cX8_searches 283 = .ok (.iconst 1, 1) := by decide +kernel
theorem dX8_searches_284 : decode cX8_searches 284 = .ok (.iadd, 1) := by decide +kernel
theorem dX8_searches_285 : decode cX8_searches 285 = .ok (.iastore, 1) := by decide +kernel
theorem dX8_searches_286 : decode cX8_searches 286 = .ok (.aload_n 0, 1) := by decide +kernel
theorem dX8_searches_287 : decode cX8_searches 287 = .ok (.getfield 91, 3) := by decide +kernel
theorem dX8_searches_290 : decode cX8_searches 290 = .ok (.iload_n 3, 1) := by decide +kernel
theorem dX8_searches_291 : decode cX8_searches 291 = .ok (.aload_n 0, 1) := by decide +kernel
theorem dX8_searches_292 : decode cX8_searches 292 = .ok (.invokevirtual 142, 3) := by decide +kernel
theorem dX8_searches_295 : decode cX8_searches 295 = .ok (.iastore, 1) := by decide +kernel
theorem dX8_searches_296 : decode cX8_searches 296 = .ok (.iinc 3 1, 3) := by decide +kernel
theorem dX8_searches_299 : decode cX8_searches 299 = .ok (.iinc 5 1, 3) := by decide +kernel
theorem dX8_searches_302 : decode cX8_searches 302 = .ok (.goto (-171), 3) := by decide +kernel
theorem dX8_searches_305 : decode cX8_searches 305 = .ok (.iinc 4 1, 3) := by decide +kernel
theorem dX8_searches_308 : decode cX8_searches 308 = .ok (.goto (-186), 3) := by decide +kernel
theorem dX8_searches_311 : decode cX8_searches 311 = .ok (.iload_n 2, 1) := by decide +kernel
theorem dX8_searches_312 : decode cX8_searches 312 = .ok (.ireturn, 1) := by decide +kernel
theorem dX8_opens_0 : decode cX8_opens 0 = .ok (.aload_n 0, 1) := by decide +kernel
theorem dX8_opens_1 : decode cX8_opens 1 = .ok (.getfield 13, 3) := by decide +kernel
theorem dX8_opens_4 : decode cX8_opens 4 = .ok (.aload_n 0, 1) := by decide +kernel
theorem dX8_opens_5 : decode cX8_opens 5 = .ok (.getfield 109, 3) := by decide +kernel
theorem dX8_opens_8 : decode cX8_opens 8 = .ok (.iload_n 1, 1) := by decide +kernel
theorem dX8_opens_9 : decode cX8_opens 9 = .ok (.iastore, 1) := by decide +kernel
theorem dX8_opens_10 : decode cX8_opens 10 = .ok (.aload_n 0, 1) := by decide +kernel
theorem dX8_opens_11 : decode cX8_opens 11 = .ok (.getfield 19, 3) := by decide +kernel
theorem dX8_opens_14 : decode cX8_opens 14 = .ok (.aload_n 0, 1) := by decide +kernel
theorem dX8_opens_15 : decode cX8_opens 15 = .ok (.getfield 109, 3) := by decide +kernel
theorem dX8_opens_18 : decode cX8_opens 18 = .ok (.iload_n 2, 1) := by decide +kernel
theorem dX8_opens_19 : decode cX8_opens 19 = .ok (.iastore, 1) := by decide +kernel
theorem dX8_opens_20 : decode cX8_opens 20 = .ok (.aload_n 0, 1) := by decide +kernel
theorem dX8_opens_21 : decode cX8_opens 21 = .ok (.getfield 22, 3) := by decide +kernel
theorem dX8_opens_24 : decode cX8_opens 24 = .ok (.aload_n 0, 1) := by decide +kernel
theorem dX8_opens_25 : decode cX8_opens 25 = .ok (.getfield 109, 3) := by decide +kernel
theorem dX8_opens_28 : decode cX8_opens 28 = .ok (.bipush (-2), 2) := by decide +kernel
theorem dX8_opens_30 : decode cX8_opens 30 = .ok (.iastore, 1) := by decide +kernel
theorem dX8_opens_31 : decode cX8_opens 31 = .ok (.aload_n 0, 1) := by decide +kernel
theorem dX8_opens_32 : decode cX8_opens 32 = .ok (.getfield 25, 3) := by decide +kernel
theorem dX8_opens_35 : decode cX8_opens 35 = .ok (.aload_n 0, 1) := by decide +kernel
theorem dX8_opens_36 : decode cX8_opens 36 = .ok (.getfield 109, 3) := by decide +kernel
theorem dX8_opens_39 : decode cX8_opens 39 = .ok (.iload_n 3, 1) := by decide +kernel
theorem dX8_opens_40 : decode cX8_opens 40 = .ok (.iastore, 1) := by decide +kernel
theorem dX8_opens_41 : decode cX8_opens 41 = .ok (.aload_n 0, 1) := by decide +kernel
theorem dX8_opens_42 : decode cX8_opens 42 = .ok (.dup, 1) := by decide +kernel
theorem dX8_opens_43 : decode cX8_opens 43 = .ok (.getfield 109, 3) := by decide +kernel
theorem dX8_opens_46 : decode cX8_opens 46 = .ok (.iconst 1, 1) := by decide +kernel
theorem dX8_opens_47 : decode cX8_opens 47 = .ok (.iadd, 1) := by decide +kernel
theorem dX8_opens_48 : decode cX8_opens 48 = .ok (.putfield 109, 3) := by decide +kernel
theorem dX8_opens_51 : decode cX8_opens 51 = .ok (.aload_n 0, 1) := by decide +kernel
theorem dX8_opens_52 : decode cX8_opens 52 = .ok (.getfield 109, 3) := by decide +kernel
theorem dX8_opens_55 : decode cX8_opens 55 = .ok (.iconst 1, 1) := by decide +kernel
theorem dX8_opens_56 : decode cX8_opens 56 = .ok (.isub, 1) := by decide +kernel
theorem dX8_opens_57 : decode cX8_opens 57 = .ok (.ireturn, 1) := by decide +kernel
set_option maxRecDepth 20000 in
theorem ggX8_begin_X8_isPerson : GoodIn wsX8_begin wsX8_isPerson := goodIn_r _ [7, 8, 9, 6, 10] (by decide +kernel) (by decide +kernel)
set_option maxRecDepth 20000 in
theorem gX8_begin_X8_isPerson : GoodIn wsX8_begin (va_wsS RX8 149 yX8_isPerson wsX8_isPerson) := goodIn_app (goodIn_of _ (by decide +kernel)) ggX8_begin_X8_isPerson
set_option maxRecDepth 20000 in
theorem ggX8_begin_X8_fails : GoodIn wsX8_begin wsX8_fails := goodIn_r _ [14, 1, 23, 24, 25, 26, 27, 28, 29, 30, 31, 32, 33, 34, 35, 36, 37, 38, 39, 40, 41, 42, 43, 44, 45, 46, 47, 48, 49, 50, 51, 52, 53, 54, 55, 56, 57, 58, 59, 60] (by decide +kernel) (by decide +kernel)
set_option maxRecDepth 20000 in
theorem gX8_begin_X8_fails : GoodIn wsX8_begin (wsV RX8 153 RX8 yX8_fails wsX8_fails) := goodIn_app (goodIn_of _ (by decide +kernel)) ggX8_begin_X8_fails
set_option maxRecDepth 20000 in
theorem ggX8_begin_X8_opens : GoodIn wsX8_begin wsX8_opens := goodIn_r _ [18, 19, 2, 20, 21, 22, 23, 24, 25, 26, 27, 28, 29, 30, 31, 32, 33, 34, 35, 36, 37, 38, 39, 40, 41, 42, 43, 44, 45, 46, 47, 48, 49, 50, 51, 52, 53, 54, 55, 56, 57, 58, 59, 60] (by decide +kernel) (by decide +kernel)
set_option maxRecDepth 20000 in
theorem gX8_begin_X8_opens : GoodIn wsX8_begin (wsV RX8 157 RX8 yX8_opens wsX8_opens) := goodIn_app (goodIn_of _ (by decide +kernel)) ggX8_begin_X8_opens
theorem dX8_begin_0 : decode cX8_begin 0 = .ok (.aload_n 0, 1) := by decide +kernel
theorem dX8_begin_1 : decode cX8_begin 1 = .ok (.iconst 0, 1) := by decide +kernel
theorem dX8_begin_2 : decode cX8_begin 2 = .ok (.putfield 101, 3) := by decide +kernel
theorem dX8_begin_5 : decode cX8_begin 5 = .ok (.iload_n 1, 1) := by decide +kernel
theorem dX8_begin_6 : decode cX8_begin 6 = .ok (.invokestatic 149, 3) := by decide +kernel
theorem dX8_begin_9 : decode cX8_begin 9 = .ok (.ifCond .ne 9, 3) := by decide +kernel
theorem dX8_begin_12 : decode cX8_begin 12 = .ok (.aload_n 0, 1) := by decide +kernel
theorem dX8_begin_13 : decode cX8_begin 13 = .ok (.iconst 1, 1) := by decide +kernel
theorem dX8_begin_14 : decode cX8_begin 14 = .ok (.invokevirtual 153, 3) := by decide +kernel
theorem dX8_begin_17 : decode cX8_begin 17 = .ok (.ireturn, 1) := by decide +kernel
theorem dX8_begin_18 : decode cX8_begin 18 = .ok (.aload_n 0, 1) := by decide +kernel
theorem dX8_begin_19 : decode cX8_begin 19 = .ok (.getfield 109, 3) := by decide +kernel
theorem dX8_begin_22 : decode cX8_begin 22 = .ok (.bipush 12, 2) := by decide +kernel
theorem dX8_begin_24 : decode cX8_begin 24 = .ok (.if_icmp .ne 9, 3) := by decide +kernel
theorem dX8_begin_27 : decode cX8_begin 27 = .ok (.aload_n 0, 1) := by decide +kernel
theorem dX8_begin_28 : decode cX8_begin 28 = .ok (.iconst 2, 1) := by decide +kernel
theorem dX8_begin_29 : decode cX8_begin 29 = .ok (.invokevirtual 153, 3) := by decide +kernel
theorem dX8_begin_32 : decode cX8_begin 32 = .ok (.ireturn, 1) := by decide +kernel
theorem dX8_begin_33 : decode cX8_begin 33 = .ok (.iconst 0, 1) := by decide +kernel
theorem dX8_begin_34 : decode cX8_begin 34 = .ok (.istore_n 2, 1) := by decide +kernel
theorem dX8_begin_35 : decode cX8_begin 35 = .ok (.iload_n 2, 1) := by decide +kernel
theorem dX8_begin_36 : decode cX8_begin 36 = .ok (.bipush 96, 2) := by decide +kernel
theorem dX8_begin_38 : decode cX8_begin 38 = .ok (.if_icmp .ge 34, 3) := by decide +kernel
theorem dX8_begin_41 : decode cX8_begin 41 = .ok (.aload_n 0, 1) := by decide +kernel
theorem dX8_begin_42 : decode cX8_begin 42 = .ok (.getfield 16, 3) := by decide +kernel
theorem dX8_begin_45 : decode cX8_begin 45 = .ok (.bipush 96, 2) := by decide +kernel
theorem dX8_begin_47 : decode cX8_begin 47 = .ok (.aload_n 0, 1) := by decide +kernel
theorem dX8_begin_48 : decode cX8_begin 48 = .ok (.getfield 109, 3) := by decide +kernel
theorem dX8_begin_51 : decode cX8_begin 51 = .ok (.imul, 1) := by decide +kernel
theorem dX8_begin_52 : decode cX8_begin 52 = .ok (.iload_n 2, 1) := by decide +kernel
theorem dX8_begin_53 : decode cX8_begin 53 = .ok (.iadd, 1) := by decide +kernel
theorem dX8_begin_54 : decode cX8_begin 54 = .ok (.iload_n 2, 1) := by decide +kernel
theorem dX8_begin_55 : decode cX8_begin 55 = .ok (.bipush 84, 2) := by decide +kernel
theorem dX8_begin_57 : decode cX8_begin 57 = .ok (.if_icmp .ge 7, 3) := by decide +kernel
theorem dX8_begin_60 : decode cX8_begin 60 = .ok (.iconst 0, 1) := by decide +kernel
theorem dX8_begin_61 : decode cX8_begin 61 = .ok (.goto 4, 3) := by decide +kernel
theorem dX8_begin_64 : decode cX8_begin 64 = .ok (.iconst 1, 1) := by decide +kernel
theorem dX8_begin_65 : decode cX8_begin 65 = .ok (.iastore, 1) := by decide +kernel
theorem dX8_begin_66 : decode cX8_begin 66 = .ok (.iinc 2 1, 3) := by decide +kernel
theorem dX8_begin_69 : decode cX8_begin 69 = .ok (.goto (-34), 3) := by decide +kernel
theorem dX8_begin_72 : decode cX8_begin 72 = .ok (.aload_n 0, 1) := by decide +kernel
theorem dX8_begin_73 : decode cX8_begin 73 = .ok (.iload_n 1, 1) := by decide +kernel
theorem dX8_begin_74 : decode cX8_begin 74 = .ok (.bipush 72, 2) := by decide +kernel
theorem dX8_begin_76 : decode cX8_begin 76 = .ok (.iconst (-1), 1) := by decide +kernel
theorem dX8_begin_77 : decode cX8_begin 77 = .ok (.invokevirtual 157, 3) := by decide +kernel
theorem dX8_begin_80 : decode cX8_begin 80 = .ok (.ireturn, 1) := by decide +kernel
theorem dX8_keysOf_0 : decode cX8_keysOf 0 = .ok (.iconst 0, 1) := by decide +kernel
theorem dX8_keysOf_1 : decode cX8_keysOf 1 = .ok (.istore_n 2, 1) := by decide +kernel
theorem dX8_keysOf_2 : decode cX8_keysOf 2 = .ok (.iconst 0, 1) := by decide +kernel
theorem dX8_keysOf_3 : decode cX8_keysOf 3 = .ok (.istore_n 3, 1) := by decide +kernel
theorem dX8_keysOf_4 : decode cX8_keysOf 4 = .ok (.iload_n 3, 1) := by decide +kernel
theorem dX8_keysOf_5 : decode cX8_keysOf 5 = .ok (.bipush 96, 2) := by decide +kernel
theorem dX8_keysOf_7 : decode cX8_keysOf 7 = .ok (.if_icmp .ge 32, 3) := by decide +kernel
theorem dX8_keysOf_10 : decode cX8_keysOf 10 = .ok (.iload_n 2, 1) := by decide +kernel
theorem dX8_keysOf_11 : decode cX8_keysOf 11 = .ok (.aload_n 0, 1) := by decide +kernel
theorem dX8_keysOf_12 : decode cX8_keysOf 12 = .ok (.getfield 16, 3) := by decide +kernel
theorem dX8_keysOf_15 : decode cX8_keysOf 15 = .ok (.bipush 96, 2) := by decide +kernel
theorem dX8_keysOf_17 : decode cX8_keysOf 17 = .ok (.iload_n 1, 1) := by decide +kernel
theorem dX8_keysOf_18 : decode cX8_keysOf 18 = .ok (.imul, 1) := by decide +kernel
theorem dX8_keysOf_19 : decode cX8_keysOf 19 = .ok (.iload_n 3, 1) := by decide +kernel
theorem dX8_keysOf_20 : decode cX8_keysOf 20 = .ok (.iadd, 1) := by decide +kernel
theorem dX8_keysOf_21 : decode cX8_keysOf 21 = .ok (.iaload, 1) := by decide +kernel
theorem dX8_keysOf_22 : decode cX8_keysOf 22 = .ok (.iconst 2, 1) := by decide +kernel
theorem dX8_keysOf_23 : decode cX8_keysOf 23 = .ok (.if_icmp .ne 7, 3) := by decide +kernel
theorem dX8_keysOf_26 : decode cX8_keysOf 26 = .ok (.iconst 1, 1) := by decide +kernel
theorem dX8_keysOf_27 : decode cX8_keysOf 27 = .ok (.goto 4, 3) := by decide +kernel
theorem dX8_keysOf_30 : decode cX8_keysOf 30 = .ok (.iconst 0, 1) := by decide +kernel
theorem dX8_keysOf_31 : decode cX8_keysOf 31 = .ok (.iadd, 1) := by decide +kernel
theorem dX8_keysOf_32 : decode cX8_keysOf 32 = .ok (.istore_n 2, 1) := by decide +kernel
theorem dX8_keysOf_33 : decode cX8_keysOf 33 = .ok (.iinc 3 1, 3) := by decide +kernel
theorem dX8_keysOf_36 : decode cX8_keysOf 36 = .ok (.goto (-32), 3) := by decide +kernel
theorem dX8_keysOf_39 : decode cX8_keysOf 39 = .ok (.iload_n 2, 1) := by decide +kernel
theorem dX8_keysOf_40 : decode cX8_keysOf 40 = .ok (.ireturn, 1) := by decide +kernel
theorem dX8_remembers_0 : decode cX8_remembers 0 = .ok (.aload_n 0, 1) := by decide +kernel
theorem dX8_remembers_1 : decode cX8_remembers 1 = .ok (.getfield 28, 3) := by decide +kernel
theorem dX8_remembers_4 : decode cX8_remembers 4 = .ok (.iload_n 1, 1) := by decide +kernel
theorem dX8_remembers_5 : decode cX8_remembers 5 = .ok (.iaload, 1) := by decide +kernel
theorem dX8_remembers_6 : decode cX8_remembers 6 = .ok (.istore 4, 2) := by decide +kernel
theorem dX8_remembers_8 : decode cX8_remembers 8 = .ok (.iload 4, 2) := by decide +kernel
theorem dX8_remembers_10 : decode cX8_remembers 10 = .ok (.bipush 40, 2) := by decide +kernel
theorem dX8_remembers_12 : decode cX8_remembers 12 = .ok (.if_icmp .ne 64, 3) := by decide +kernel
theorem dX8_remembers_15 : decode cX8_remembers 15 = .ok (.bipush 40, 2) := by decide +kernel
theorem dX8_remembers_17 : decode cX8_remembers 17 = .ok (.iload_n 1, 1) := by decide +kernel
theorem dX8_remembers_18 : decode cX8_remembers 18 = .ok (.imul, 1) := by decide +kernel
theorem dX8_remembers_19 : decode cX8_remembers 19 = .ok (.istore 5, 2) := by decide +kernel
theorem dX8_remembers_21 : decode cX8_remembers 21 = .ok (.iload 5, 2) := by decide +kernel
theorem dX8_remembers_23 : decode cX8_remembers 23 = .ok (.bipush 40, 2) := by decide +kernel
theorem dX8_remembers_25 : decode cX8_remembers 25 = .ok (.iload_n 1, 1) := by decide +kernel
theorem dX8_remembers_26 : decode cX8_remembers 26 = .ok (.imul, 1) := by decide +kernel
theorem dX8_remembers_27 : decode cX8_remembers 27 = .ok (.bipush 40, 2) := by decide +kernel
theorem dX8_remembers_29 : decode cX8_remembers 29 = .ok (.iadd, 1) := by decide +kernel
theorem dX8_remembers_30 : decode cX8_remembers 30 = .ok (.iconst 1, 1) := by decide +kernel
theorem dX8_remembers_31 : decode cX8_remembers 31 = .ok (.isub, 1) := by decide +kernel
theorem dX8_remembers_32 : decode cX8_remembers 32 = .ok (.if_icmp .ge 41, 3) := by decide +kernel
theorem dX8_remembers_35 : decode cX8_remembers 35 = .ok (.aload_n 0, 1) := by decide +kernel
theorem dX8_remembers_36 : decode cX8_remembers 36 = .ok (.getfield 31, 3) := by decide +kernel
theorem dX8_remembers_39 : decode cX8_remembers 39 = .ok (.iload 5, 2) := by decide +kernel
theorem dX8_remembers_41 : decode cX8_remembers 41 = .ok (.aload_n 0, 1) := by decide +kernel
theorem dX8_remembers_42 : decode cX8_remembers 42 = .ok (.getfield 31, 3) := by decide +kernel
theorem dX8_remembers_45 : decode cX8_remembers 45 = .ok (.iload 5, 2) := by decide +kernel
theorem dX8_remembers_47 : decode cX8_remembers 47 = .ok (.iconst 1, 1) := by decide +kernel
theorem dX8_remembers_48 : decode cX8_remembers 48 = .ok (.iadd, 1) := by decide +kernel
theorem dX8_remembers_49 : decode cX8_remembers 49 = .ok (.iaload, 1) := by decide +kernel
theorem dX8_remembers_50 : decode cX8_remembers 50 = .ok (.iastore, 1) := by decide +kernel
theorem dX8_remembers_51 : decode cX8_remembers 51 = .ok (.aload_n 0, 1) := by decide +kernel
theorem dX8_remembers_52 : decode cX8_remembers 52 = .ok (.getfield 34, 3) := by decide +kernel
theorem dX8_remembers_55 : decode cX8_remembers 55 = .ok (.iload 5, 2) := by decide +kernel
theorem dX8_remembers_57 : decode cX8_remembers 57 = .ok (.aload_n 0, 1) := by decide +kernel
theorem dX8_remembers_58 : decode cX8_remembers 58 = .ok (.getfield 34, 3) := by decide +kernel
theorem dX8_remembers_61 : decode cX8_remembers 61 = .ok (.iload 5, 2) := by decide +kernel
theorem dX8_remembers_63 : decode cX8_remembers 63 = .ok (.iconst 1, 1) := by decide +kernel
theorem dX8_remembers_64 : decode cX8_remembers 64 = .ok (.iadd, 1) := by decide +kernel
theorem dX8_remembers_65 : decode cX8_remembers 65 = .ok (.iaload, 1) := by decide +kernel
theorem dX8_remembers_66 : decode cX8_remembers 66 = .ok (.iastore, 1) := by decide +kernel
theorem dX8_remembers_67 : decode cX8_remembers 67 = .ok (.iinc 5 1, 3) := by decide +kernel
theorem dX8_remembers_70 : decode cX8_remembers 70 = .ok (.goto (-49), 3) := by decide +kernel
theorem dX8_remembers_73 : decode cX8_remembers 73 = .ok (.iinc 4 (-1), 3) := by decide +kernel
theorem dX8_remembers_76 : decode cX8_remembers 76 = .ok (.aload_n 0, 1) := by decide +kernel
theorem dX8_remembers_77 : decode cX8_remembers 77 = .ok (.getfield 31, 3) := by decide +kernel
theorem dX8_remembers_80 : decode cX8_remembers 80 = .ok (.bipush 40, 2) := by decide +kernel
theorem dX8_remembers_82 : decode cX8_remembers 82 = .ok (.iload_n 1, 1) := by decide +kernel
theorem dX8_remembers_83 : decode cX8_remembers 83 = .ok (.imul, 1) := by decide +kernel
theorem dX8_remembers_84 : decode cX8_remembers 84 = .ok (.iload 4, 2) := by decide +kernel
theorem dX8_remembers_86 : decode cX8_remembers 86 = .ok (.iadd, 1) := by decide +kernel
theorem dX8_remembers_87 : decode cX8_remembers 87 = .ok (.iload_n 2, 1) := by decide +kernel
theorem dX8_remembers_88 : decode cX8_remembers 88 = .ok (.iastore, 1) := by decide +kernel
theorem dX8_remembers_89 : decode cX8_remembers 89 = .ok (.aload_n 0, 1) := by decide +kernel
theorem dX8_remembers_90 : decode cX8_remembers 90 = .ok (.getfield 34, 3) := by decide +kernel
theorem dX8_remembers_93 : decode cX8_remembers 93 = .ok (.bipush 40, 2) := by decide +kernel
theorem dX8_remembers_95 : decode cX8_remembers 95 = .ok (.iload_n 1, 1) := by decide +kernel
theorem dX8_remembers_96 : decode cX8_remembers 96 = .ok (.imul, 1) := by decide +kernel
theorem dX8_remembers_97 : decode cX8_remembers 97 = .ok (.iload 4, 2) := by decide +kernel
theorem dX8_remembers_99 : decode cX8_remembers 99 = .ok (.iadd, 1) := by decide +kernel
theorem dX8_remembers_100 : decode cX8_remembers 100 = .ok (.iload_n 3, 1) := by decide +kernel
theorem dX8_remembers_101 : decode cX8_remembers 101 = .ok (.iastore, 1) := by decide +kernel
theorem dX8_remembers_102 : decode cX8_remembers 102 = .ok (.aload_n 0, 1) := by decide +kernel
theorem dX8_remembers_103 : decode cX8_remembers 103 = .ok (.getfield 28, 3) := by decide +kernel
theorem dX8_remembers_106 : decode cX8_remembers 106 = .ok (.iload_n 1, 1) := by decide +kernel
theorem dX8_remembers_107 : decode cX8_remembers 107 = .ok (.iload 4, 2) := by decide +kernel
theorem dX8_remembers_109 : decode cX8_remembers 109 = .ok (.iconst 1, 1) := by decide +kernel
theorem dX8_remembers_110 : decode cX8_remembers 110 = .ok (.iadd, 1) := by decide +kernel
theorem dX8_remembers_111 : decode cX8_remembers 111 = .ok (.iastore, 1) := by decide +kernel
theorem dX8_remembers_112 : decode cX8_remembers 112 = .ok (.return_, 1) := by decide +kernel
set_option maxRecDepth 20000 in
theorem ggX8_set_X8_isLevel : GoodIn wsX8_set wsX8_isLevel := goodIn_r _ [9, 10, 11, 12, 8, 13, 32, 33, 34, 35, 36, 37, 38, 39, 40, 41, 42, 43, 44, 45, 46, 47, 48, 49, 50, 51, 52, 53, 54, 55, 56, 57, 58, 59, 60, 61, 62, 63, 64, 65, 66, 67, 68, 69] (by decide +kernel) (by decide +kernel)
set_option maxRecDepth 20000 in
theorem gX8_set_X8_isLevel : GoodIn wsX8_set (wsV RX8 161 RX8 yX8_isLevel wsX8_isLevel) := goodIn_app (goodIn_of _ (by decide +kernel)) ggX8_set_X8_isLevel
set_option maxRecDepth 20000 in
theorem ggX8_set_X8_isCell : GoodIn wsX8_set wsX8_isCell := goodIn_r _ [16, 11, 12, 8, 13] (by decide +kernel) (by decide +kernel)
set_option maxRecDepth 20000 in
theorem gX8_set_X8_isCell : GoodIn wsX8_set (va_wsS RX8 164 yX8_isCell wsX8_isCell) := goodIn_app (goodIn_of _ (by decide +kernel)) ggX8_set_X8_isCell
set_option maxRecDepth 20000 in
theorem ggX8_set_X8_fails : GoodIn wsX8_set wsX8_fails := goodIn_r _ [20, 1, 32, 33, 34, 35, 36, 37, 38, 39, 40, 41, 42, 43, 44, 45, 46, 47, 48, 49, 50, 51, 52, 53, 54, 55, 56, 57, 58, 59, 60, 61, 62, 63, 64, 65, 66, 67, 68, 69] (by decide +kernel) (by decide +kernel)
set_option maxRecDepth 20000 in
theorem gX8_set_X8_fails : GoodIn wsX8_set (wsV RX8 153 RX8 yX8_fails wsX8_fails) := goodIn_app (goodIn_of _ (by decide +kernel)) ggX8_set_X8_fails
set_option maxRecDepth 20000 in
theorem ggX8_set_X8_in : GoodIn wsX8_set wsX8_in := goodIn_r _ [13] (by decide +kernel) (by decide +kernel)
set_option maxRecDepth 20000 in
theorem gX8_set_X8_in : GoodIn wsX8_set (va_wsS RX8 105 yX8_in wsX8_in) := goodIn_app (goodIn_of _ (by decide +kernel)) ggX8_set_X8_in
set_option maxRecDepth 20000 in
theorem ggX8_set_X8_keysOf : GoodIn wsX8_set wsX8_keysOf := goodIn_r _ [24, 2, 32, 33, 34, 35, 36, 37, 38, 39, 40, 41, 42, 43, 44, 45, 46, 47, 48, 49, 50, 51, 52, 53, 54, 55, 56, 57, 58, 59, 60, 61, 62, 63, 64, 65, 66, 67, 68, 69] (by decide +kernel) (by decide +kernel)
set_option maxRecDepth 20000 in
theorem gX8_set_X8_keysOf : GoodIn wsX8_set (wsV RX8 167 RX8 yX8_keysOf wsX8_keysOf) := goodIn_app (goodIn_of _ (by decide +kernel)) ggX8_set_X8_keysOf
set_option maxRecDepth 20000 in
theorem ggX8_set_X8_remembers : GoodIn wsX8_set wsX8_remembers := goodIn_r _ [28, 29, 30, 31, 32, 33, 34, 35, 36, 37, 38, 39, 40, 41, 42, 43, 44, 45, 46, 47, 48, 49, 50, 51, 52, 53, 54, 55, 56, 57, 58, 59, 60, 61, 62, 63, 64, 65, 66, 67, 68, 69] (by decide +kernel) (by decide +kernel)
set_option maxRecDepth 20000 in
theorem gX8_set_X8_remembers : GoodIn wsX8_set (wsV RX8 170 RX8 yX8_remembers wsX8_remembers) := goodIn_app (goodIn_of _ (by decide +kernel)) ggX8_set_X8_remembers
theorem dX8_set_0 : decode cX8_set 0 = .ok (.aload_n 0, 1) := by decide +kernel
theorem dX8_set_1 : decode cX8_set 1 = .ok (.iconst 0, 1) := by decide +kernel
theorem dX8_set_2 : decode cX8_set 2 = .ok (.putfield 101, 3) := by decide +kernel
theorem dX8_set_5 : decode cX8_set 5 = .ok (.aload_n 0, 1) := by decide +kernel
theorem dX8_set_6 : decode cX8_set 6 = .ok (.iload_n 1, 1) := by decide +kernel
theorem dX8_set_7 : decode cX8_set 7 = .ok (.invokevirtual 161, 3) := by decide +kernel
theorem dX8_set_10 : decode cX8_set 10 = .ok (.ifCond .eq 10, 3) := by decide +kernel
theorem dX8_set_13 : decode cX8_set 13 = .ok (.iload_n 2, 1) := by decide +kernel
theorem dX8_set_14 : decode cX8_set 14 = .ok (.invokestatic 164, 3) := by decide +kernel
theorem dX8_set_17 : decode cX8_set 17 = .ok (.ifCond .ne 9, 3) := by decide +kernel
theorem dX8_set_20 : decode cX8_set 20 = .ok (.aload_n 0, 1) := by decide +kernel
theorem dX8_set_21 : decode cX8_set 21 = .ok (.iconst 1, 1) := by decide +kernel
theorem dX8_set_22 : decode cX8_set 22 = .ok (.invokevirtual 153, 3) := by decide +kernel
theorem dX8_set_25 : decode cX8_set 25 = .ok (.ireturn, 1) := by decide +kernel
theorem dX8_set_26 : decode cX8_set 26 = .ok (.iload_n 3, 1) := by decide +kernel
theorem dX8_set_27 : decode cX8_set 27 = .ok (.iconst 0, 1) := by decide +kernel
theorem dX8_set_28 : decode cX8_set 28 = .ok (.bipush 8, 2) := by decide +kernel
theorem dX8_set_30 : decode cX8_set 30 = .ok (.invokestatic 105, 3) := by decide +kernel
theorem dX8_set_33 : decode cX8_set 33 = .ok (.ifCond .ne 9, 3) := by decide +kernel
theorem dX8_set_36 : decode cX8_set 36 = .ok (.aload_n 0, 1) := by decide +kernel
theorem dX8_set_37 : decode cX8_set 37 = .ok (.iconst 2, 1) := by decide +kernel
theorem dX8_set_38 : decode cX8_set 38 = .ok (.invokevirtual 153, 3) := by decide +kernel
theorem dX8_set_41 : decode cX8_set 41 = .ok (.ireturn, 1) := by decide +kernel
theorem dX8_set_42 : decode cX8_set 42 = .ok (.aload_n 0, 1) := by decide +kernel
theorem dX8_set_43 : decode cX8_set 43 = .ok (.getfield 16, 3) := by decide +kernel
theorem dX8_set_46 : decode cX8_set 46 = .ok (.bipush 96, 2) := by decide +kernel
theorem dX8_set_48 : decode cX8_set 48 = .ok (.iload_n 1, 1) := by decide +kernel
theorem dX8_set_49 : decode cX8_set 49 = .ok (.imul, 1) := by decide +kernel
theorem dX8_set_50 : decode cX8_set 50 = .ok (.iload_n 2, 1) := by decide +kernel
theorem dX8_set_51 : decode cX8_set 51 = .ok (.iadd, 1) := by decide +kernel
theorem dX8_set_52 : decode cX8_set 52 = .ok (.iaload, 1) := by decide +kernel
theorem dX8_set_53 : decode cX8_set 53 = .ok (.istore 4, 2) := by decide +kernel
theorem dX8_set_55 : decode cX8_set 55 = .ok (.iload_n 3, 1) := by decide +kernel
theorem dX8_set_56 : decode cX8_set 56 = .ok (.iconst 2, 1) := by decide +kernel
theorem dX8_set_57 : decode cX8_set 57 = .ok (.if_icmp .ne 24, 3) := by decide +kernel
theorem dX8_set_60 : decode cX8_set 60 = .ok (.iload 4, 2) := by decide +kernel
theorem dX8_set_62 : decode cX8_set 62 = .ok (.iconst 2, 1) := by decide +kernel
theorem dX8_set_63 : decode cX8_set 63 = .ok (.if_icmp .eq 18, 3) := by decide +kernel
theorem dX8_set_66 : decode cX8_set 66 = .ok (.aload_n 0, 1) := by decide +kernel
theorem dX8_set_67 : decode cX8_set 67 = .ok (.iload_n 1, 1) := by decide +kernel
theorem dX8_set_68 : decode cX8_set 68 = .ok (.invokevirtual 167, 3) := by decide +kernel
theorem dX8_set_71 : decode cX8_set 71 = .ok (.iconst 3, 1) := by decide +kernel
theorem dX8_set_72 : decode cX8_set 72 = .ok (.if_icmp .ne 9, 3) := by decide +kernel
theorem dX8_set_75 : decode cX8_set 75 = .ok (.aload_n 0, 1) := by decide +kernel
theorem dX8_set_76 : decode cX8_set 76 = .ok (.iconst 3, 1) := by decide +kernel
theorem dX8_set_77 : decode cX8_set 77 = .ok (.invokevirtual 153, 3) := by decide +kernel
theorem dX8_set_80 : decode cX8_set 80 = .ok (.ireturn, 1) := by decide +kernel
theorem dX8_set_81 : decode cX8_set 81 = .ok (.aload_n 0, 1) := by decide +kernel
theorem dX8_set_82 : decode cX8_set 82 = .ok (.getfield 16, 3) := by decide +kernel
theorem dX8_set_85 : decode cX8_set 85 = .ok (.bipush 96, 2) := by decide +kernel
theorem dX8_set_87 : decode cX8_set 87 = .ok (.iload_n 1, 1) := by decide +kernel
theorem dX8_set_88 : decode cX8_set 88 = .ok (.imul, 1) := by decide +kernel
theorem dX8_set_89 : decode cX8_set 89 = .ok (.iload_n 2, 1) := by decide +kernel
theorem dX8_set_90 : decode cX8_set 90 = .ok (.iadd, 1) := by decide +kernel
theorem dX8_set_91 : decode cX8_set 91 = .ok (.iload_n 3, 1) := by decide +kernel
theorem dX8_set_92 : decode cX8_set 92 = .ok (.iastore, 1) := by decide +kernel
theorem dX8_set_93 : decode cX8_set 93 = .ok (.aload_n 0, 1) := by decide +kernel
theorem dX8_set_94 : decode cX8_set 94 = .ok (.iload_n 1, 1) := by decide +kernel
theorem dX8_set_95 : decode cX8_set 95 = .ok (.iload_n 2, 1) := by decide +kernel
theorem dX8_set_96 : decode cX8_set 96 = .ok (.bipush 10, 2) := by decide +kernel
theorem dX8_set_98 : decode cX8_set 98 = .ok (.iload 4, 2) := by decide +kernel
theorem dX8_set_100 : decode cX8_set 100 = .ok (.imul, 1) := by decide +kernel
theorem dX8_set_101 : decode cX8_set 101 = .ok (.iload_n 3, 1) := by decide +kernel
theorem dX8_set_102 : decode cX8_set 102 = .ok (.iadd, 1) := by decide +kernel
theorem dX8_set_103 : decode cX8_set 103 = .ok (.invokevirtual 170, 3) := by decide +kernel
theorem dX8_set_106 : decode cX8_set 106 = .ok (.aload_n 0, 1) := by decide +kernel
theorem dX8_set_107 : decode cX8_set 107 = .ok (.getfield 37, 3) := by decide +kernel
theorem dX8_set_110 : decode cX8_set 110 = .ok (.iload_n 1, 1) := by decide +kernel
theorem dX8_set_111 : decode cX8_set 111 = .ok (.iconst 0, 1) := by decide +kernel
theorem dX8_set_112 : decode cX8_set 112 = .ok (.iastore, 1) := by decide +kernel
theorem dX8_set_113 : decode cX8_set 113 = .ok (.aload_n 0, 1) := by decide +kernel
theorem dX8_set_114 : decode cX8_set 114 = .ok (.getfield 22, 3) := by decide +kernel
theorem dX8_set_117 : decode cX8_set 117 = .ok (.iload_n 1, 1) := by decide +kernel
theorem dX8_set_118 : decode cX8_set 118 = .ok (.bipush (-2), 2) := by decide +kernel
theorem dX8_set_120 : decode cX8_set 120 = .ok (.iastore, 1) := by decide +kernel
theorem dX8_set_121 : decode cX8_set 121 = .ok (.iload 4, 2) := by decide +kernel
theorem dX8_set_123 : decode cX8_set 123 = .ok (.ireturn, 1) := by decide +kernel
set_option maxRecDepth 20000 in
theorem ggX8_setStart_X8_isLevel : GoodIn wsX8_setStart wsX8_isLevel := goodIn_r _ [8, 9, 10, 11, 7, 12, 20, 21, 22, 23, 24, 25, 26, 27, 28, 29, 30, 31, 32, 33, 34, 35, 36, 37, 38, 39, 40, 41, 42, 43, 44, 45, 46, 47, 48, 49, 50, 51, 52, 53, 54, 55, 56, 57] (by decide +kernel) (by decide +kernel)
set_option maxRecDepth 20000 in
theorem gX8_setStart_X8_isLevel : GoodIn wsX8_setStart (wsV RX8 161 RX8 yX8_isLevel wsX8_isLevel) := goodIn_app (goodIn_of _ (by decide +kernel)) ggX8_setStart_X8_isLevel
set_option maxRecDepth 20000 in
theorem ggX8_setStart_X8_isCell : GoodIn wsX8_setStart wsX8_isCell := goodIn_r _ [15, 10, 11, 7, 12] (by decide +kernel) (by decide +kernel)
set_option maxRecDepth 20000 in
theorem gX8_setStart_X8_isCell : GoodIn wsX8_setStart (va_wsS RX8 164 yX8_isCell wsX8_isCell) := goodIn_app (goodIn_of _ (by decide +kernel)) ggX8_setStart_X8_isCell
set_option maxRecDepth 20000 in
theorem ggX8_setStart_X8_fails : GoodIn wsX8_setStart wsX8_fails := goodIn_r _ [19, 1, 20, 21, 22, 23, 24, 25, 26, 27, 28, 29, 30, 31, 32, 33, 34, 35, 36, 37, 38, 39, 40, 41, 42, 43, 44, 45, 46, 47, 48, 49, 50, 51, 52, 53, 54, 55, 56, 57] (by decide +kernel) (by decide +kernel)
set_option maxRecDepth 20000 in
theorem gX8_setStart_X8_fails : GoodIn wsX8_setStart (wsV RX8 153 RX8 yX8_fails wsX8_fails) := goodIn_app (goodIn_of _ (by decide +kernel)) ggX8_setStart_X8_fails
theorem dX8_setStart_0 : decode cX8_setStart 0 = .ok (.aload_n 0, 1) := by decide +kernel
theorem dX8_setStart_1 : decode cX8_setStart 1 = .ok (.iconst 0, 1) := by decide +kernel
theorem dX8_setStart_2 : decode cX8_setStart 2 = .ok (.putfield 101, 3) := by decide +kernel
theorem dX8_setStart_5 : decode cX8_setStart 5 = .ok (.aload_n 0, 1) := by decide +kernel
theorem dX8_setStart_6 : decode cX8_setStart 6 = .ok (.iload_n 1, 1) := by decide +kernel
theorem dX8_setStart_7 : decode cX8_setStart 7 = .ok (.invokevirtual 161, 3) := by decide +kernel
theorem dX8_setStart_10 : decode cX8_setStart 10 = .ok (.ifCond .eq 10, 3) := by decide +kernel
theorem dX8_setStart_13 : decode cX8_setStart 13 = .ok (.iload_n 2, 1) := by decide +kernel
theorem dX8_setStart_14 : decode cX8_setStart 14 = .ok (.invokestatic 164, 3) := by decide +kernel
theorem dX8_setStart_17 : decode cX8_setStart 17 = .ok (.ifCond .ne 9, 3) := by decide +kernel
theorem dX8_setStart_20 : decode cX8_setStart 20 = .ok (.aload_n 0, 1) := by decide +kernel
theorem dX8_setStart_21 : decode cX8_setStart 21 = .ok (.iconst 1, 1) := by decide +kernel
theorem dX8_setStart_22 : decode cX8_setStart 22 = .ok (.invokevirtual 153, 3) := by decide +kernel
theorem dX8_setStart_25 : decode cX8_setStart 25 = .ok (.ireturn, 1) := by decide +kernel
theorem dX8_setStart_26 : decode cX8_setStart 26 = .ok (.aload_n 0, 1) := by decide +kernel
theorem dX8_setStart_27 : decode cX8_setStart 27 = .ok (.getfield 19, 3) := by decide +kernel
theorem dX8_setStart_30 : decode cX8_setStart 30 = .ok (.iload_n 1, 1) := by decide +kernel
theorem dX8_setStart_31 : decode cX8_setStart 31 = .ok (.iaload, 1) := by decide +kernel
theorem dX8_setStart_32 : decode cX8_setStart 32 = .ok (.istore_n 3, 1) := by decide +kernel
theorem dX8_setStart_33 : decode cX8_setStart 33 = .ok (.aload_n 0, 1) := by decide +kernel
theorem dX8_setStart_34 : decode cX8_setStart 34 = .ok (.getfield 19, 3) := by decide +kernel
theorem dX8_setStart_37 : decode cX8_setStart 37 = .ok (.iload_n 1, 1) := by decide +kernel
theorem dX8_setStart_38 : decode cX8_setStart 38 = .ok (.iload_n 2, 1) := by decide +kernel
theorem dX8_setStart_39 : decode cX8_setStart 39 = .ok (.iastore, 1) := by decide +kernel
theorem dX8_setStart_40 : decode cX8_setStart 40 = .ok (.aload_n 0, 1) := by decide +kernel
theorem dX8_setStart_41 : decode cX8_setStart 41 = .ok (.getfield 22, 3) := by decide +kernel
theorem dX8_setStart_44 : decode cX8_setStart 44 = .ok (.iload_n 1, 1) := by decide +kernel
theorem dX8_setStart_45 : decode cX8_setStart 45 = .ok (.bipush (-2), 2) := by decide +kernel
theorem dX8_setStart_47 : decode cX8_setStart 47 = .ok (.iastore, 1) := by decide +kernel
theorem dX8_setStart_48 : decode cX8_setStart 48 = .ok (.iload_n 3, 1) := by decide +kernel
theorem dX8_setStart_49 : decode cX8_setStart 49 = .ok (.ireturn, 1) := by decide +kernel
set_option maxRecDepth 20000 in
theorem ggX8_undo_X8_isLevel : GoodIn wsX8_undo wsX8_isLevel := goodIn_r _ [14, 15, 16, 17, 13, 18, 23, 24, 25, 26, 27, 28, 29, 30, 31, 32, 33, 34, 35, 36, 37, 38, 39, 40, 41, 42, 43, 44, 45, 46, 47, 48, 49, 50, 51, 52, 53, 54, 55, 56, 57, 58, 59, 60] (by decide +kernel) (by decide +kernel)
set_option maxRecDepth 20000 in
theorem gX8_undo_X8_isLevel : GoodIn wsX8_undo (wsV RX8 161 RX8 yX8_isLevel wsX8_isLevel) := goodIn_app (goodIn_of _ (by decide +kernel)) ggX8_undo_X8_isLevel
set_option maxRecDepth 20000 in
theorem ggX8_undo_X8_fails : GoodIn wsX8_undo wsX8_fails := goodIn_r _ [22, 1, 23, 24, 25, 26, 27, 28, 29, 30, 31, 32, 33, 34, 35, 36, 37, 38, 39, 40, 41, 42, 43, 44, 45, 46, 47, 48, 49, 50, 51, 52, 53, 54, 55, 56, 57, 58, 59, 60] (by decide +kernel) (by decide +kernel)
set_option maxRecDepth 20000 in
theorem gX8_undo_X8_fails : GoodIn wsX8_undo (wsV RX8 153 RX8 yX8_fails wsX8_fails) := goodIn_app (goodIn_of _ (by decide +kernel)) ggX8_undo_X8_fails
theorem dX8_undo_0 : decode cX8_undo 0 = .ok (.aload_n 0, 1) := by decide +kernel
theorem dX8_undo_1 : decode cX8_undo 1 = .ok (.iconst 0, 1) := by decide +kernel
theorem dX8_undo_2 : decode cX8_undo 2 = .ok (.putfield 101, 3) := by decide +kernel
theorem dX8_undo_5 : decode cX8_undo 5 = .ok (.aload_n 0, 1) := by decide +kernel
theorem dX8_undo_6 : decode cX8_undo 6 = .ok (.iload_n 1, 1) := by decide +kernel
theorem dX8_undo_7 : decode cX8_undo 7 = .ok (.invokevirtual 161, 3) := by decide +kernel
theorem dX8_undo_10 : decode cX8_undo 10 = .ok (.ifCond .ne 9, 3) := by decide +kernel
theorem dX8_undo_13 : decode cX8_undo 13 = .ok (.aload_n 0, 1) := by decide +kernel
theorem dX8_undo_14 : decode cX8_undo 14 = .ok (.iconst 1, 1) := by decide +kernel
theorem dX8_undo_15 : decode cX8_undo 15 = .ok (.invokevirtual 153, 3) := by decide +kernel
theorem dX8_undo_18 : decode cX8_undo 18 = .ok (.ireturn, 1) := by decide +kernel
theorem dX8_undo_19 : decode cX8_undo 19 = .ok (.aload_n 0, 1) := by decide +kernel
theorem dX8_undo_20 : decode cX8_undo 20 = .ok (.getfield 28, 3) := by decide +kernel
theorem dX8_undo_23 : decode cX8_undo 23 = .ok (.iload_n 1, 1) := by decide +kernel
theorem dX8_undo_24 : decode cX8_undo 24 = .ok (.iaload, 1) := by decide +kernel
theorem dX8_undo_25 : decode cX8_undo 25 = .ok (.ifCond .ne 9, 3) := by decide +kernel
theorem dX8_undo_28 : decode cX8_undo 28 = .ok (.aload_n 0, 1) := by decide +kernel
theorem dX8_undo_29 : decode cX8_undo 29 = .ok (.iconst 2, 1) := by decide +kernel
theorem dX8_undo_30 : decode cX8_undo 30 = .ok (.invokevirtual 153, 3) := by decide +kernel
theorem dX8_undo_33 : decode cX8_undo 33 = .ok (.ireturn, 1) := by decide +kernel
theorem dX8_undo_34 : decode cX8_undo 34 = .ok (.aload_n 0, 1) := by decide +kernel
theorem dX8_undo_35 : decode cX8_undo 35 = .ok (.getfield 28, 3) := by decide +kernel
theorem dX8_undo_38 : decode cX8_undo 38 = .ok (.iload_n 1, 1) := by decide +kernel
theorem dX8_undo_39 : decode cX8_undo 39 = .ok (.dup2, 1) := by decide +kernel
theorem dX8_undo_40 : decode cX8_undo 40 = .ok (.iaload, 1) := by decide +kernel
theorem dX8_undo_41 : decode cX8_undo 41 = .ok (.iconst 1, 1) := by decide +kernel
theorem dX8_undo_42 : decode cX8_undo 42 = .ok (.isub, 1) := by decide +kernel
theorem dX8_undo_43 : decode cX8_undo 43 = .ok (.iastore, 1) := by decide +kernel
theorem dX8_undo_44 : decode cX8_undo 44 = .ok (.bipush 40, 2) := by decide +kernel
theorem dX8_undo_46 : decode cX8_undo 46 = .ok (.iload_n 1, 1) := by decide +kernel
theorem dX8_undo_47 : decode cX8_undo 47 = .ok (.imul, 1) := by decide +kernel
theorem dX8_undo_48 : decode cX8_undo 48 = .ok (.aload_n 0, 1) := by decide +kernel
theorem dX8_undo_49 : decode cX8_undo 49 = .ok (.getfield 28, 3) := by decide +kernel
theorem dX8_undo_52 : decode cX8_undo 52 = .ok (.iload_n 1, 1) := by decide +kernel
theorem dX8_undo_53 : decode cX8_undo 53 = .ok (.iaload, 1) := by decide +kernel
theorem dX8_undo_54 : decode cX8_undo 54 = .ok (.iadd, 1) := by decide +kernel
theorem dX8_undo_55 : decode cX8_undo 55 = .ok (.istore_n 2, 1) := by decide +kernel
theorem dX8_undo_56 : decode cX8_undo 56 = .ok (.aload_n 0, 1) := by decide +kernel
theorem dX8_undo_57 : decode cX8_undo 57 = .ok (.getfield 40, 3) := by decide +kernel
theorem dX8_undo_60 : decode cX8_undo 60 = .ok (.bipush 40, 2) := by decide +kernel
theorem dX8_undo_62 : decode cX8_undo 62 = .ok (.iload_n 1, 1) := by decide +kernel
theorem dX8_undo_63 : decode cX8_undo 63 = .ok (.imul, 1) := by decide +kernel
theorem dX8_undo_64 : decode cX8_undo 64 = .ok (.aload_n 0, 1) := by decide +kernel
theorem dX8_undo_65 : decode cX8_undo 65 = .ok (.getfield 37, 3) := by decide +kernel
theorem dX8_undo_68 : decode cX8_undo 68 = .ok (.iload_n 1, 1) := by decide +kernel
theorem dX8_undo_69 : decode cX8_undo 69 = .ok (.iaload, 1) := by decide +kernel
theorem dX8_undo_70 : decode cX8_undo 70 = .ok (.iadd, 1) := by decide +kernel
theorem dX8_undo_71 : decode cX8_undo 71 = .ok (.aload_n 0, 1) := by decide +kernel
theorem dX8_undo_72 : decode cX8_undo 72 = .ok (.getfield 31, 3) := by decide +kernel
theorem dX8_undo_75 : decode cX8_undo 75 = .ok (.iload_n 2, 1) := by decide +kernel
theorem dX8_undo_76 : decode cX8_undo 76 = .ok (.iaload, 1) := by decide +kernel
theorem dX8_undo_77 : decode cX8_undo 77 = .ok (.iastore, 1) := by decide +kernel
theorem dX8_undo_78 : decode cX8_undo 78 = .ok (.aload_n 0, 1) := by decide +kernel
theorem dX8_undo_79 : decode cX8_undo 79 = .ok (.getfield 43, 3) := by decide +kernel
theorem dX8_undo_82 : decode cX8_undo 82 = .ok (.bipush 40, 2) := by decide +kernel
theorem dX8_undo_84 : decode cX8_undo 84 = .ok (.iload_n 1, 1) := by decide +kernel
theorem dX8_undo_85 : decode cX8_undo 85 = .ok (.imul, 1) := by decide +kernel
theorem dX8_undo_86 : decode cX8_undo 86 = .ok (.aload_n 0, 1) := by decide +kernel
theorem dX8_undo_87 : decode cX8_undo 87 = .ok (.getfield 37, 3) := by decide +kernel
theorem dX8_undo_90 : decode cX8_undo 90 = .ok (.iload_n 1, 1) := by decide +kernel
theorem dX8_undo_91 : decode cX8_undo 91 = .ok (.iaload, 1) := by decide +kernel
theorem dX8_undo_92 : decode cX8_undo 92 = .ok (.iadd, 1) := by decide +kernel
theorem dX8_undo_93 : decode cX8_undo 93 = .ok (.aload_n 0, 1) := by decide +kernel
theorem dX8_undo_94 : decode cX8_undo 94 = .ok (.getfield 34, 3) := by decide +kernel
theorem dX8_undo_97 : decode cX8_undo 97 = .ok (.iload_n 2, 1) := by decide +kernel
theorem dX8_undo_98 : decode cX8_undo 98 = .ok (.iaload, 1) := by decide +kernel
theorem dX8_undo_99 : decode cX8_undo 99 = .ok (.iastore, 1) := by decide +kernel
theorem dX8_undo_100 : decode cX8_undo 100 = .ok (.aload_n 0, 1) := by decide +kernel
theorem dX8_undo_101 : decode cX8_undo 101 = .ok (.getfield 37, 3) := by decide +kernel
theorem dX8_undo_104 : decode cX8_undo 104 = .ok (.iload_n 1, 1) := by decide +kernel
theorem dX8_undo_105 : decode cX8_undo 105 = .ok (.dup2, 1) := by decide +kernel
theorem dX8_undo_106 : decode cX8_undo 106 = .ok (.iaload, 1) := by decide +kernel
theorem dX8_undo_107 : decode cX8_undo 107 = .ok (.iconst 1, 1) := by decide +kernel
theorem dX8_undo_108 : decode cX8_undo 108 = .ok (.iadd, 1) := by decide +kernel
theorem dX8_undo_109 : decode cX8_undo 109 = .ok (.iastore, 1) := by decide +kernel
theorem dX8_undo_110 : decode cX8_undo 110 = .ok (.aload_n 0, 1) := by decide +kernel
theorem dX8_undo_111 : decode cX8_undo 111 = .ok (.getfield 16, 3) := by decide +kernel
theorem dX8_undo_114 : decode cX8_undo 114 = .ok (.bipush 96, 2) := by decide +kernel
theorem dX8_undo_116 : decode cX8_undo 116 = .ok (.iload_n 1, 1) := by decide +kernel
theorem dX8_undo_117 : decode cX8_undo 117 = .ok (.imul, 1) := by decide +kernel
theorem dX8_undo_118 : decode cX8_undo 118 = .ok (.aload_n 0, 1) := by decide +kernel
theorem dX8_undo_119 : decode cX8_undo 119 = .ok (.getfield 31, 3) := by decide +kernel
theorem dX8_undo_122 : decode cX8_undo 122 = .ok (.iload_n 2, 1) := by decide +kernel
theorem dX8_undo_123 : decode cX8_undo 123 = .ok (.iaload, 1) := by decide +kernel
theorem dX8_undo_124 : decode cX8_undo 124 = .ok (.iadd, 1) := by decide +kernel
theorem dX8_undo_125 : decode cX8_undo 125 = .ok (.aload_n 0, 1) := by decide +kernel
theorem dX8_undo_126 : decode cX8_undo 126 = .ok (.getfield 34, 3) := by decide +kernel
theorem dX8_undo_129 : decode cX8_undo 129 = .ok (.iload_n 2, 1) := by decide +kernel
theorem dX8_undo_130 : decode cX8_undo 130 = .ok (.iaload, 1) := by decide +kernel
theorem dX8_undo_131 : decode cX8_undo 131 = .ok (.bipush 10, 2) := by decide +kernel
theorem dX8_undo_133 : decode cX8_undo 133 = .ok (.idiv, 1) := by decide +kernel
theorem dX8_undo_134 : decode cX8_undo 134 = .ok (.iastore, 1) := by decide +kernel
theorem dX8_undo_135 : decode cX8_undo 135 = .ok (.aload_n 0, 1) := by decide +kernel
theorem dX8_undo_136 : decode cX8_undo 136 = .ok (.getfield 22, 3) := by decide +kernel
theorem dX8_undo_139 : decode cX8_undo 139 = .ok (.iload_n 1, 1) := by decide +kernel
theorem dX8_undo_140 : decode cX8_undo 140 = .ok (.bipush (-2), 2) := by decide +kernel
theorem dX8_undo_142 : decode cX8_undo 142 = .ok (.iastore, 1) := by decide +kernel
theorem dX8_undo_143 : decode cX8_undo 143 = .ok (.aload_n 0, 1) := by decide +kernel
theorem dX8_undo_144 : decode cX8_undo 144 = .ok (.getfield 31, 3) := by decide +kernel
theorem dX8_undo_147 : decode cX8_undo 147 = .ok (.iload_n 2, 1) := by decide +kernel
theorem dX8_undo_148 : decode cX8_undo 148 = .ok (.iaload, 1) := by decide +kernel
theorem dX8_undo_149 : decode cX8_undo 149 = .ok (.ireturn, 1) := by decide +kernel
set_option maxRecDepth 20000 in
theorem ggX8_redo_X8_isLevel : GoodIn wsX8_redo wsX8_isLevel := goodIn_r _ [11, 12, 13, 14, 10, 15, 27, 28, 29, 30, 31, 32, 33, 34, 35, 36, 37, 38, 39, 40, 41, 42, 43, 44, 45, 46, 47, 48, 49, 50, 51, 52, 53, 54, 55, 56, 57, 58, 59, 60, 61, 62, 63, 64] (by decide +kernel) (by decide +kernel)
set_option maxRecDepth 20000 in
theorem gX8_redo_X8_isLevel : GoodIn wsX8_redo (wsV RX8 161 RX8 yX8_isLevel wsX8_isLevel) := goodIn_app (goodIn_of _ (by decide +kernel)) ggX8_redo_X8_isLevel
set_option maxRecDepth 20000 in
theorem ggX8_redo_X8_fails : GoodIn wsX8_redo wsX8_fails := goodIn_r _ [19, 1, 27, 28, 29, 30, 31, 32, 33, 34, 35, 36, 37, 38, 39, 40, 41, 42, 43, 44, 45, 46, 47, 48, 49, 50, 51, 52, 53, 54, 55, 56, 57, 58, 59, 60, 61, 62, 63, 64] (by decide +kernel) (by decide +kernel)
set_option maxRecDepth 20000 in
theorem gX8_redo_X8_fails : GoodIn wsX8_redo (wsV RX8 153 RX8 yX8_fails wsX8_fails) := goodIn_app (goodIn_of _ (by decide +kernel)) ggX8_redo_X8_fails
set_option maxRecDepth 20000 in
theorem ggX8_redo_X8_remembers : GoodIn wsX8_redo wsX8_remembers := goodIn_r _ [23, 24, 25, 26, 27, 28, 29, 30, 31, 32, 33, 34, 35, 36, 37, 38, 39, 40, 41, 42, 43, 44, 45, 46, 47, 48, 49, 50, 51, 52, 53, 54, 55, 56, 57, 58, 59, 60, 61, 62, 63, 64] (by decide +kernel) (by decide +kernel)
set_option maxRecDepth 20000 in
theorem gX8_redo_X8_remembers : GoodIn wsX8_redo (wsV RX8 170 RX8 yX8_remembers wsX8_remembers) := goodIn_app (goodIn_of _ (by decide +kernel)) ggX8_redo_X8_remembers
theorem dX8_redo_0 : decode cX8_redo 0 = .ok (.aload_n 0, 1) := by decide +kernel
theorem dX8_redo_1 : decode cX8_redo 1 = .ok (.iconst 0, 1) := by decide +kernel
theorem dX8_redo_2 : decode cX8_redo 2 = .ok (.putfield 101, 3) := by decide +kernel
theorem dX8_redo_5 : decode cX8_redo 5 = .ok (.aload_n 0, 1) := by decide +kernel
theorem dX8_redo_6 : decode cX8_redo 6 = .ok (.iload_n 1, 1) := by decide +kernel
theorem dX8_redo_7 : decode cX8_redo 7 = .ok (.invokevirtual 161, 3) := by decide +kernel
theorem dX8_redo_10 : decode cX8_redo 10 = .ok (.ifCond .ne 9, 3) := by decide +kernel
theorem dX8_redo_13 : decode cX8_redo 13 = .ok (.aload_n 0, 1) := by decide +kernel
theorem dX8_redo_14 : decode cX8_redo 14 = .ok (.iconst 1, 1) := by decide +kernel
theorem dX8_redo_15 : decode cX8_redo 15 = .ok (.invokevirtual 153, 3) := by decide +kernel
theorem dX8_redo_18 : decode cX8_redo 18 = .ok (.ireturn, 1) := by decide +kernel
theorem dX8_redo_19 : decode cX8_redo 19 = .ok (.aload_n 0, 1) := by decide +kernel
theorem dX8_redo_20 : decode cX8_redo 20 = .ok (.getfield 37, 3) := by decide +kernel
theorem dX8_redo_23 : decode cX8_redo 23 = .ok (.iload_n 1, 1) := by decide +kernel
theorem dX8_redo_24 : decode cX8_redo 24 = .ok (.iaload, 1) := by decide +kernel
theorem dX8_redo_25 : decode cX8_redo 25 = .ok (.ifCond .ne 9, 3) := by decide +kernel
theorem dX8_redo_28 : decode cX8_redo 28 = .ok (.aload_n 0, 1) := by decide +kernel
theorem dX8_redo_29 : decode cX8_redo 29 = .ok (.iconst 2, 1) := by decide +kernel
theorem dX8_redo_30 : decode cX8_redo 30 = .ok (.invokevirtual 153, 3) := by decide +kernel
theorem dX8_redo_33 : decode cX8_redo 33 = .ok (.ireturn, 1) := by decide +kernel
theorem dX8_redo_34 : decode cX8_redo 34 = .ok (.aload_n 0, 1) := by decide +kernel
theorem dX8_redo_35 : decode cX8_redo 35 = .ok (.getfield 37, 3) := by decide +kernel
theorem dX8_redo_38 : decode cX8_redo 38 = .ok (.iload_n 1, 1) := by decide +kernel
theorem dX8_redo_39 : decode cX8_redo 39 = .ok (.dup2, 1) := by decide +kernel
theorem dX8_redo_40 : decode cX8_redo 40 = .ok (.iaload, 1) := by decide +kernel
theorem dX8_redo_41 : decode cX8_redo 41 = .ok (.iconst 1, 1) := by decide +kernel
theorem dX8_redo_42 : decode cX8_redo 42 = .ok (.isub, 1) := by decide +kernel
theorem dX8_redo_43 : decode cX8_redo 43 = .ok (.iastore, 1) := by decide +kernel
theorem dX8_redo_44 : decode cX8_redo 44 = .ok (.bipush 40, 2) := by decide +kernel
theorem dX8_redo_46 : decode cX8_redo 46 = .ok (.iload_n 1, 1) := by decide +kernel
theorem dX8_redo_47 : decode cX8_redo 47 = .ok (.imul, 1) := by decide +kernel
theorem dX8_redo_48 : decode cX8_redo 48 = .ok (.aload_n 0, 1) := by decide +kernel
theorem dX8_redo_49 : decode cX8_redo 49 = .ok (.getfield 37, 3) := by decide +kernel
theorem dX8_redo_52 : decode cX8_redo 52 = .ok (.iload_n 1, 1) := by decide +kernel
theorem dX8_redo_53 : decode cX8_redo 53 = .ok (.iaload, 1) := by decide +kernel
theorem dX8_redo_54 : decode cX8_redo 54 = .ok (.iadd, 1) := by decide +kernel
theorem dX8_redo_55 : decode cX8_redo 55 = .ok (.istore_n 2, 1) := by decide +kernel
theorem dX8_redo_56 : decode cX8_redo 56 = .ok (.aload_n 0, 1) := by decide +kernel
theorem dX8_redo_57 : decode cX8_redo 57 = .ok (.iload_n 1, 1) := by decide +kernel
theorem dX8_redo_58 : decode cX8_redo 58 = .ok (.aload_n 0, 1) := by decide +kernel
theorem dX8_redo_59 : decode cX8_redo 59 = .ok (.getfield 40, 3) := by decide +kernel
theorem dX8_redo_62 : decode cX8_redo 62 = .ok (.iload_n 2, 1) := by decide +kernel
theorem dX8_redo_63 : decode cX8_redo 63 = .ok (.iaload, 1) := by decide +kernel
theorem dX8_redo_64 : decode cX8_redo 64 = .ok (.aload_n 0, 1) := by decide +kernel
theorem dX8_redo_65 : decode cX8_redo 65 = .ok (.getfield 43, 3) := by decide +kernel
theorem dX8_redo_68 : decode cX8_redo 68 = .ok (.iload_n 2, 1) := by decide +kernel
theorem dX8_redo_69 : decode cX8_redo 69 = .ok (.iaload, 1) := by decide +kernel
theorem dX8_redo_70 : decode cX8_redo 70 = .ok (.invokevirtual 170, 3) := by decide +kernel
theorem dX8_redo_73 : decode cX8_redo 73 = .ok (.aload_n 0, 1) := by decide +kernel
theorem dX8_redo_74 : decode cX8_redo 74 = .ok (.getfield 16, 3) := by decide +kernel
theorem dX8_redo_77 : decode cX8_redo 77 = .ok (.bipush 96, 2) := by decide +kernel
theorem dX8_redo_79 : decode cX8_redo 79 = .ok (.iload_n 1, 1) := by decide +kernel
theorem dX8_redo_80 : decode cX8_redo 80 = .ok (.imul, 1) := by decide +kernel
theorem dX8_redo_81 : decode cX8_redo 81 = .ok (.aload_n 0, 1) := by decide +kernel
theorem dX8_redo_82 : decode cX8_redo 82 = .ok (.getfield 40, 3) := by decide +kernel
theorem dX8_redo_85 : decode cX8_redo 85 = .ok (.iload_n 2, 1) := by decide +kernel
theorem dX8_redo_86 : decode cX8_redo 86 = .ok (.iaload, 1) := by decide +kernel
theorem dX8_redo_87 : decode cX8_redo 87 = .ok (.iadd, 1) := by decide +kernel
theorem dX8_redo_88 : decode cX8_redo 88 = .ok (.aload_n 0, 1) := by decide +kernel
theorem dX8_redo_89 : decode cX8_redo 89 = .ok (.getfield 43, 3) := by decide +kernel
theorem dX8_redo_92 : decode cX8_redo 92 = .ok (.iload_n 2, 1) := by decide +kernel
theorem dX8_redo_93 : decode cX8_redo 93 = .ok (.iaload, 1) := by decide +kernel
theorem dX8_redo_94 : decode cX8_redo 94 = .ok (.bipush 10, 2) := by decide +kernel
theorem dX8_redo_96 : decode cX8_redo 96 = .ok (.irem, 1) := by decide +kernel
theorem dX8_redo_97 : decode cX8_redo 97 = .ok (.iastore, 1) := by decide +kernel
theorem dX8_redo_98 : decode cX8_redo 98 = .ok (.aload_n 0, 1) := by decide +kernel
theorem dX8_redo_99 : decode cX8_redo 99 = .ok (.getfield 22, 3) := by decide +kernel
theorem dX8_redo_102 : decode cX8_redo 102 = .ok (.iload_n 1, 1) := by decide +kernel
theorem dX8_redo_103 : decode cX8_redo 103 = .ok (.bipush (-2), 2) := by decide +kernel
theorem dX8_redo_105 : decode cX8_redo 105 = .ok (.iastore, 1) := by decide +kernel
theorem dX8_redo_106 : decode cX8_redo 106 = .ok (.aload_n 0, 1) := by decide +kernel
theorem dX8_redo_107 : decode cX8_redo 107 = .ok (.getfield 40, 3) := by decide +kernel
theorem dX8_redo_110 : decode cX8_redo 110 = .ok (.iload_n 2, 1) := by decide +kernel
theorem dX8_redo_111 : decode cX8_redo 111 = .ok (.iaload, 1) := by decide +kernel
theorem dX8_redo_112 : decode cX8_redo 112 = .ok (.ireturn, 1) := by decide +kernel
theorem dX8_isInLevel_0 : decode cX8_isInLevel 0 = .ok (.iconst 0, 1) := by decide +kernel
theorem dX8_isInLevel_1 : decode cX8_isInLevel 1 = .ok (.istore_n 3, 1) := by decide +kernel
theorem dX8_isInLevel_2 : decode cX8_isInLevel 2 = .ok (.iconst 0, 1) := by decide +kernel
theorem dX8_isInLevel_3 : decode cX8_isInLevel 3 = .ok (.istore 4, 2) := by decide +kernel
theorem dX8_isInLevel_5 : decode cX8_isInLevel 5 = .ok (.iload 4, 2) := by decide +kernel
theorem dX8_isInLevel_7 : decode cX8_isInLevel 7 = .ok (.bipush 96, 2) := by decide +kernel
theorem dX8_isInLevel_9 : decode cX8_isInLevel 9 = .ok (.if_icmp .ge 35, 3) := by decide +kernel
theorem dX8_isInLevel_12 : decode cX8_isInLevel 12 = .ok (.iload_n 3, 1) := by decide +kernel
theorem dX8_isInLevel_13 : decode cX8_isInLevel 13 = .ok (.ifCond .ne 19, 3) := by decide +kernel
theorem dX8_isInLevel_16 : decode cX8_isInLevel 16 = .ok (.aload_n 0, 1) := by decide +kernel
theorem dX8_isInLevel_17 : decode cX8_isInLevel 17 = .ok (.getfield 16, 3) := by decide +kernel
theorem dX8_isInLevel_20 : decode cX8_isInLevel 20 = .ok (.bipush 96, 2) := by decide +kernel
theorem dX8_isInLevel_22 : decode cX8_isInLevel 22 = .ok (.iload_n 1, 1) := by decide +kernel
theorem dX8_isInLevel_23 : decode cX8_isInLevel 23 = .ok (.imul, 1) := by decide +kernel
theorem dX8_isInLevel_24 : decode cX8_isInLevel 24 = .ok (.iload 4, 2) := by decide +kernel
theorem dX8_isInLevel_26 : decode cX8_isInLevel 26 = .ok (.iadd, 1) := by decide +kernel
theorem dX8_isInLevel_27 : decode cX8_isInLevel 27 = .ok (.iaload, 1) := by decide +kernel
theorem dX8_isInLevel_28 : decode cX8_isInLevel 28 = .ok (.iload_n 2, 1) := by decide +kernel
theorem dX8_isInLevel_29 : decode cX8_isInLevel 29 = .ok (.if_icmp .ne 7, 3) := by decide +kernel
theorem dX8_isInLevel_32 : decode cX8_isInLevel 32 = .ok (.iconst 1, 1) := by decide +kernel
theorem dX8_isInLevel_33 : decode cX8_isInLevel 33 = .ok (.goto 4, 3) := by decide +kernel
theorem dX8_isInLevel_36 : decode cX8_isInLevel 36 = .ok (.iconst 0, 1) := by decide +kernel
theorem dX8_isInLevel_37 : decode cX8_isInLevel 37 = .ok (.istore_n 3, 1) := by decide +kernel
theorem dX8_isInLevel_38 : decode cX8_isInLevel 38 = .ok (.iinc 4 1, 3) := by decide +kernel
theorem dX8_isInLevel_41 : decode cX8_isInLevel 41 = .ok (.goto (-36), 3) := by decide +kernel
theorem dX8_isInLevel_44 : decode cX8_isInLevel 44 = .ok (.iload_n 3, 1) := by decide +kernel
theorem dX8_isInLevel_45 : decode cX8_isInLevel 45 = .ok (.ireturn, 1) := by decide +kernel
theorem dX8_isInWork_0 : decode cX8_isInWork 0 = .ok (.iconst 0, 1) := by decide +kernel
theorem dX8_isInWork_1 : decode cX8_isInWork 1 = .ok (.istore_n 3, 1) := by decide +kernel
theorem dX8_isInWork_2 : decode cX8_isInWork 2 = .ok (.iconst 0, 1) := by decide +kernel
theorem dX8_isInWork_3 : decode cX8_isInWork 3 = .ok (.istore 4, 2) := by decide +kernel
theorem dX8_isInWork_5 : decode cX8_isInWork 5 = .ok (.iload 4, 2) := by decide +kernel
theorem dX8_isInWork_7 : decode cX8_isInWork 7 = .ok (.bipush 96, 2) := by decide +kernel
theorem dX8_isInWork_9 : decode cX8_isInWork 9 = .ok (.if_icmp .ge 35, 3) := by decide +kernel
theorem dX8_isInWork_12 : decode cX8_isInWork 12 = .ok (.iload_n 3, 1) := by decide +kernel
theorem dX8_isInWork_13 : decode cX8_isInWork 13 = .ok (.ifCond .ne 19, 3) := by decide +kernel
theorem dX8_isInWork_16 : decode cX8_isInWork 16 = .ok (.aload_n 0, 1) := by decide +kernel
theorem dX8_isInWork_17 : decode cX8_isInWork 17 = .ok (.getfield 49, 3) := by decide +kernel
theorem dX8_isInWork_20 : decode cX8_isInWork 20 = .ok (.bipush 96, 2) := by decide +kernel
theorem dX8_isInWork_22 : decode cX8_isInWork 22 = .ok (.iload_n 1, 1) := by decide +kernel
theorem dX8_isInWork_23 : decode cX8_isInWork 23 = .ok (.imul, 1) := by decide +kernel
theorem dX8_isInWork_24 : decode cX8_isInWork 24 = .ok (.iload 4, 2) := by decide +kernel
theorem dX8_isInWork_26 : decode cX8_isInWork 26 = .ok (.iadd, 1) := by decide +kernel
theorem dX8_isInWork_27 : decode cX8_isInWork 27 = .ok (.iaload, 1) := by decide +kernel
theorem dX8_isInWork_28 : decode cX8_isInWork 28 = .ok (.iload_n 2, 1) := by decide +kernel
theorem dX8_isInWork_29 : decode cX8_isInWork 29 = .ok (.if_icmp .ne 7, 3) := by decide +kernel
theorem dX8_isInWork_32 : decode cX8_isInWork 32 = .ok (.iconst 1, 1) := by decide +kernel
theorem dX8_isInWork_33 : decode cX8_isInWork 33 = .ok (.goto 4, 3) := by decide +kernel
theorem dX8_isInWork_36 : decode cX8_isInWork 36 = .ok (.iconst 0, 1) := by decide +kernel
theorem dX8_isInWork_37 : decode cX8_isInWork 37 = .ok (.istore_n 3, 1) := by decide +kernel
theorem dX8_isInWork_38 : decode cX8_isInWork 38 = .ok (.iinc 4 1, 3) := by decide +kernel
theorem dX8_isInWork_41 : decode cX8_isInWork 41 = .ok (.goto (-36), 3) := by decide +kernel
theorem dX8_isInWork_44 : decode cX8_isInWork 44 = .ok (.iload_n 3, 1) := by decide +kernel
theorem dX8_isInWork_45 : decode cX8_isInWork 45 = .ok (.ireturn, 1) := by decide +kernel
set_option maxRecDepth 20000 in
theorem ggX8_tries_X8_lays : GoodIn wsX8_tries wsX8_lays := goodIn_r _ [9, 10, 11, 12, 13, 14, 50, 51, 52, 53, 54, 55, 56, 57, 58, 59, 60, 61, 62, 63, 64, 65, 66, 67, 68, 69, 70, 71, 72, 73, 74, 75, 76, 77, 78, 79, 80, 81, 82, 83, 84, 85, 86, 87] (by decide +kernel) (by decide +kernel)
set_option maxRecDepth 20000 in
theorem gX8_tries_X8_lays : GoodIn wsX8_tries (wsV RX8 174 RX8 yX8_lays wsX8_lays) := goodIn_app (goodIn_of _ (by decide +kernel)) ggX8_tries_X8_lays
set_option maxRecDepth 20000 in
theorem ggX8_tries_X8_searches : GoodIn wsX8_tries wsX8_searches := goodIn_r _ [18, 19, 20, 21, 22, 23, 24, 25, 26, 27, 28, 8, 29, 30, 31, 32, 33, 14, 11, 34, 35, 36, 37, 38, 39, 40, 41, 42, 43, 44, 45, 46, 10, 47, 48, 49, 50, 51, 52, 53, 54, 55, 56, 57, 58, 59, 60, 61, 62, 63, 64, 65, 66, 67, 68, 69, 70, 71, 72, 73, 74, 75, 76, 77, 78, 79, 80, 81, 82, 83, 84, 85, 86, 87] (by decide +kernel) (by decide +kernel)
set_option maxRecDepth 20000 in
theorem gX8_tries_X8_searches : GoodIn wsX8_tries (wsV RX8 178 RX8 yX8_searches wsX8_searches) := goodIn_app (goodIn_of _ (by decide +kernel)) ggX8_tries_X8_searches
theorem dX8_tries_0 : decode cX8_tries 0 = .ok (.aload_n 0, 1) := by decide +kernel
theorem dX8_tries_1 : decode cX8_tries 1 = .ok (.iconst 1, 1) := by decide +kernel
theorem dX8_tries_2 : decode cX8_tries 2 = .ok (.iload_n 1, 1) := by decide +kernel
theorem dX8_tries_3 : decode cX8_tries 3 = .ok (.invokevirtual 174, 3) := by decide +kernel
theorem dX8_tries_6 : decode cX8_tries 6 = .ok (.aload_n 0, 1) := by decide +kernel
theorem dX8_tries_7 : decode cX8_tries 7 = .ok (.getfield 55, 3) := by decide +kernel
theorem dX8_tries_10 : decode cX8_tries 10 = .ok (.iload_n 1, 1) := by decide +kernel
theorem dX8_tries_11 : decode cX8_tries 11 = .ok (.aload_n 0, 1) := by decide +kernel
theorem dX8_tries_12 : decode cX8_tries 12 = .ok (.aload_n 0, 1) := by decide +kernel
theorem dX8_tries_13 : decode cX8_tries 13 = .ok (.getfield 52, 3) := by decide +kernel
theorem dX8_tries_16 : decode cX8_tries 16 = .ok (.iload_n 1, 1) := by decide +kernel
theorem dX8_tries_17 : decode cX8_tries 17 = .ok (.iaload, 1) := by decide +kernel
theorem dX8_tries_18 : decode cX8_tries 18 = .ok (.invokevirtual 178, 3) := by decide +kernel
theorem dX8_tries_21 : decode cX8_tries 21 = .ok (.iastore, 1) := by decide +kernel
theorem dX8_tries_22 : decode cX8_tries 22 = .ok (.iconst 0, 1) := by decide +kernel
theorem dX8_tries_23 : decode cX8_tries 23 = .ok (.istore_n 2, 1) := by decide +kernel
theorem dX8_tries_24 : decode cX8_tries 24 = .ok (.iload_n 2, 1) := by decide +kernel
theorem dX8_tries_25 : decode cX8_tries 25 = .ok (.bipush 6, 2) := by decide +kernel
theorem dX8_tries_27 : decode cX8_tries 27 = .ok (.if_icmp .ge 65, 3) := by decide +kernel
theorem dX8_tries_30 : decode cX8_tries 30 = .ok (.aload_n 0, 1) := by decide +kernel
theorem dX8_tries_31 : decode cX8_tries 31 = .ok (.getfield 55, 3) := by decide +kernel
theorem dX8_tries_34 : decode cX8_tries 34 = .ok (.iload_n 1, 1) := by decide +kernel
theorem dX8_tries_35 : decode cX8_tries 35 = .ok (.iaload, 1) := by decide +kernel
theorem dX8_tries_36 : decode cX8_tries 36 = .ok (.iconst (-1), 1) := by decide +kernel
theorem dX8_tries_37 : decode cX8_tries 37 = .ok (.if_icmp .ne 27, 3) := by decide +kernel
theorem dX8_tries_40 : decode cX8_tries 40 = .ok (.aload_n 0, 1) := by decide +kernel
theorem dX8_tries_41 : decode cX8_tries 41 = .ok (.getfield 67, 3) := by decide +kernel
theorem dX8_tries_44 : decode cX8_tries 44 = .ok (.iload_n 2, 1) := by decide +kernel
theorem dX8_tries_45 : decode cX8_tries 45 = .ok (.iaload, 1) := by decide +kernel
theorem dX8_tries_46 : decode cX8_tries 46 = .ok (.iconst 1, 1) := by decide +kernel
theorem dX8_tries_47 : decode cX8_tries 47 = .ok (.if_icmp .ne 17, 3) := by decide +kernel
theorem dX8_tries_50 : decode cX8_tries 50 = .ok (.aload_n 0, 1) := by decide +kernel
theorem dX8_tries_51 : decode cX8_tries 51 = .ok (.getfield 70, 3) := by decide +kernel
theorem dX8_tries_54 : decode cX8_tries 54 = .ok (.iload_n 2, 1) := by decide +kernel
theorem dX8_tries_55 : decode cX8_tries 55 = .ok (.iaload, 1) := by decide +kernel
theorem dX8_tries_56 : decode cX8_tries 56 = .ok (.iload_n 1, 1) := by decide +kernel
theorem dX8_tries_57 : decode cX8_tries 57 = .ok (.if_icmp .ne 7, 3) := by decide +kernel
theorem dX8_tries_60 : decode cX8_tries 60 = .ok (.iconst 1, 1) := by decide +kernel
theorem dX8_tries_61 : decode cX8_tries 61 = .ok (.goto 4, 3) := by decide +kernel
theorem dX8_tries_64 : decode cX8_tries 64 = .ok (.iconst 0, 1) := by decide +kernel
theorem dX8_tries_65 : decode cX8_tries 65 = .ok (.istore_n 3, 1) := by decide +kernel
theorem dX8_tries_66 : decode cX8_tries 66 = .ok (.aload_n 0, 1) := by decide +kernel
theorem dX8_tries_67 : decode cX8_tries 67 = .ok (.getfield 67, 3) := by decide +kernel
theorem dX8_tries_70 : decode cX8_tries 70 = .ok (.iload_n 2, 1) := by decide +kernel
theorem dX8_tries_71 : decode cX8_tries 71 = .ok (.iload_n 3, 1) := by decide +kernel
theorem dX8_tries_72 : decode cX8_tries 72 = .ok (.ifCond .eq 7, 3) := by decide +kernel
theorem dX8_tries_75 : decode cX8_tries 75 = .ok (.iconst 4, 1) := by decide +kernel
theorem dX8_tries_76 : decode cX8_tries 76 = .ok (.goto 9, 3) := by decide +kernel
theorem dX8_tries_79 : decode cX8_tries 79 = .ok (.aload_n 0, 1) := by decide +kernel
theorem dX8_tries_80 : decode cX8_tries 80 = .ok (.getfield 67, 3) := by decide +kernel
theorem dX8_tries_83 : decode cX8_tries 83 = .ok (.iload_n 2, 1) := by decide +kernel
theorem dX8_tries_84 : decode cX8_tries 84 = .ok (.iaload, 1) := by decide +kernel
theorem dX8_tries_85 : decode cX8_tries 85 = .ok (.iastore, 1) := by decide +kernel
theorem dX8_tries_86 : decode cX8_tries 86 = .ok (.iinc 2 1, 3) := by decide +kernel
theorem dX8_tries_89 : decode cX8_tries 89 = .ok (.goto (-65), 3) := by decide +kernel
theorem dX8_tries_92 : decode cX8_tries 92 = .ok (.return_, 1) := by decide +kernel
set_option maxRecDepth 20000 in
theorem ggX8_setSpring_X8_in : GoodIn wsX8_setSpring wsX8_in := goodIn_r _ [9] (by decide +kernel) (by decide +kernel)
set_option maxRecDepth 20000 in
theorem gX8_setSpring_X8_in : GoodIn wsX8_setSpring (va_wsS RX8 105 yX8_in wsX8_in) := goodIn_app (goodIn_of _ (by decide +kernel)) ggX8_setSpring_X8_in
set_option maxRecDepth 20000 in
theorem ggX8_setSpring_X8_fails : GoodIn wsX8_setSpring wsX8_fails := goodIn_r _ [13, 1, 70, 71, 72, 73, 74, 75, 76, 77, 78, 79, 80, 81, 82, 83, 84, 85, 86, 87, 88, 89, 90, 91, 92, 93, 94, 95, 96, 97, 98, 99, 100, 101, 102, 103, 104, 105, 106, 107] (by decide +kernel) (by decide +kernel)
set_option maxRecDepth 20000 in
theorem gX8_setSpring_X8_fails : GoodIn wsX8_setSpring (wsV RX8 153 RX8 yX8_fails wsX8_fails) := goodIn_app (goodIn_of _ (by decide +kernel)) ggX8_setSpring_X8_fails
set_option maxRecDepth 20000 in
theorem ggX8_setSpring_X8_isInLevel : GoodIn wsX8_setSpring wsX8_isInLevel := goodIn_r _ [17, 18, 70, 71, 72, 73, 74, 75, 76, 77, 78, 79, 80, 81, 82, 83, 84, 85, 86, 87, 88, 89, 90, 91, 92, 93, 94, 95, 96, 97, 98, 99, 100, 101, 102, 103, 104, 105, 106, 107] (by decide +kernel) (by decide +kernel)
set_option maxRecDepth 20000 in
theorem gX8_setSpring_X8_isInLevel : GoodIn wsX8_setSpring (wsV RX8 181 RX8 yX8_isInLevel wsX8_isInLevel) := goodIn_app (goodIn_of _ (by decide +kernel)) ggX8_setSpring_X8_isInLevel
set_option maxRecDepth 20000 in
theorem ggX8_setSpring_X8_isInWork : GoodIn wsX8_setSpring wsX8_isInWork := goodIn_r _ [22, 23, 70, 71, 72, 73, 74, 75, 76, 77, 78, 79, 80, 81, 82, 83, 84, 85, 86, 87, 88, 89, 90, 91, 92, 93, 94, 95, 96, 97, 98, 99, 100, 101, 102, 103, 104, 105, 106, 107] (by decide +kernel) (by decide +kernel)
set_option maxRecDepth 20000 in
theorem gX8_setSpring_X8_isInWork : GoodIn wsX8_setSpring (wsV RX8 184 RX8 yX8_isInWork wsX8_isInWork) := goodIn_app (goodIn_of _ (by decide +kernel)) ggX8_setSpring_X8_isInWork
set_option maxRecDepth 20000 in
theorem ggX8_setSpring_X8_tries : GoodIn wsX8_setSpring wsX8_tries := goodIn_r _ [27, 28, 29, 30, 31, 32, 33, 34, 8, 35, 36, 37, 23, 18, 38, 39, 40, 41, 42, 43, 44, 45, 46, 47, 48, 49, 50, 51, 52, 53, 54, 55, 56, 57, 58, 59, 60, 61, 62, 63, 64, 65, 2, 66, 67, 68, 69, 6, 7, 9, 70, 71, 72, 73, 74, 75, 76, 77, 78, 79, 80, 81, 82, 83, 84, 85, 86, 87, 88, 89, 90, 91, 92, 93, 94, 95, 96, 97, 98, 99, 100, 101, 102, 103, 104, 105, 106, 107] (by decide +kernel) (by decide +kernel)
set_option maxRecDepth 20000 in
theorem gX8_setSpring_X8_tries : GoodIn wsX8_setSpring (wsV RX8 187 RX8 yX8_tries wsX8_tries) := goodIn_app (goodIn_of _ (by decide +kernel)) ggX8_setSpring_X8_tries
theorem dX8_setSpring_0 : decode cX8_setSpring 0 = .ok (.aload_n 0, 1) := by decide +kernel
theorem dX8_setSpring_1 : decode cX8_setSpring 1 = .ok (.iconst 0, 1) := by decide +kernel
theorem dX8_setSpring_2 : decode cX8_setSpring 2 = .ok (.putfield 101, 3) := by decide +kernel
theorem dX8_setSpring_5 : decode cX8_setSpring 5 = .ok (.iload_n 1, 1) := by decide +kernel
theorem dX8_setSpring_6 : decode cX8_setSpring 6 = .ok (.iconst 0, 1) := by decide +kernel
theorem dX8_setSpring_7 : decode cX8_setSpring 7 = .ok (.iconst 2, 1) := by decide +kernel
theorem dX8_setSpring_8 : decode cX8_setSpring 8 = .ok (.invokestatic 105, 3) := by decide +kernel
theorem dX8_setSpring_11 : decode cX8_setSpring 11 = .ok (.ifCond .ne 9, 3) := by decide +kernel
theorem dX8_setSpring_14 : decode cX8_setSpring 14 = .ok (.aload_n 0, 1) := by decide +kernel
theorem dX8_setSpring_15 : decode cX8_setSpring 15 = .ok (.iconst 1, 1) := by decide +kernel
theorem dX8_setSpring_16 : decode cX8_setSpring 16 = .ok (.invokevirtual 153, 3) := by decide +kernel
theorem dX8_setSpring_19 : decode cX8_setSpring 19 = .ok (.ireturn, 1) := by decide +kernel
theorem dX8_setSpring_20 : decode cX8_setSpring 20 = .ok (.iload_n 2, 1) := by decide +kernel
theorem dX8_setSpring_21 : decode cX8_setSpring 21 = .ok (.iconst 1, 1) := by decide +kernel
theorem dX8_setSpring_22 : decode cX8_setSpring 22 = .ok (.iconst 4, 1) := by decide +kernel
theorem dX8_setSpring_23 : decode cX8_setSpring 23 = .ok (.invokestatic 105, 3) := by decide +kernel
theorem dX8_setSpring_26 : decode cX8_setSpring 26 = .ok (.ifCond .ne 9, 3) := by decide +kernel
theorem dX8_setSpring_29 : decode cX8_setSpring 29 = .ok (.aload_n 0, 1) := by decide +kernel
theorem dX8_setSpring_30 : decode cX8_setSpring 30 = .ok (.iconst 2, 1) := by decide +kernel
theorem dX8_setSpring_31 : decode cX8_setSpring 31 = .ok (.invokevirtual 153, 3) := by decide +kernel
theorem dX8_setSpring_34 : decode cX8_setSpring 34 = .ok (.ireturn, 1) := by decide +kernel
theorem dX8_setSpring_35 : decode cX8_setSpring 35 = .ok (.iconst 0, 1) := by decide +kernel
theorem dX8_setSpring_36 : decode cX8_setSpring 36 = .ok (.istore_n 3, 1) := by decide +kernel
theorem dX8_setSpring_37 : decode cX8_setSpring 37 = .ok (.aload_n 0, 1) := by decide +kernel
theorem dX8_setSpring_38 : decode cX8_setSpring 38 = .ok (.getfield 7, 3) := by decide +kernel
theorem dX8_setSpring_41 : decode cX8_setSpring 41 = .ok (.iload_n 1, 1) := by decide +kernel
theorem dX8_setSpring_42 : decode cX8_setSpring 42 = .ok (.iaload, 1) := by decide +kernel
theorem dX8_setSpring_43 : decode cX8_setSpring 43 = .ok (.iload_n 2, 1) := by decide +kernel
theorem dX8_setSpring_44 : decode cX8_setSpring 44 = .ok (.if_icmp .eq 134, 3) := by decide +kernel
theorem dX8_setSpring_47 : decode cX8_setSpring 47 = .ok (.aload_n 0, 1) := by decide +kernel
theorem dX8_setSpring_48 : decode cX8_setSpring 48 = .ok (.getfield 7, 3) := by decide +kernel
theorem dX8_setSpring_51 : decode cX8_setSpring 51 = .ok (.iload_n 1, 1) := by decide +kernel
theorem dX8_setSpring_52 : decode cX8_setSpring 52 = .ok (.iload_n 2, 1) := by decide +kernel
theorem dX8_setSpring_53 : decode cX8_setSpring 53 = .ok (.iastore, 1) := by decide +kernel
theorem dX8_setSpring_54 : decode cX8_setSpring 54 = .ok (.iconst 0, 1) := by decide +kernel
theorem dX8_setSpring_55 : decode cX8_setSpring 55 = .ok (.istore 4, 2) := by decide +kernel
theorem dX8_setSpring_57 : decode cX8_setSpring 57 = .ok (.iload 4, 2) := by decide +kernel
theorem dX8_setSpring_59 : decode cX8_setSpring 59 = .ok (.aload_n 0, 1) := by decide +kernel
theorem dX8_setSpring_60 : decode cX8_setSpring 60 = .ok (.getfield 109, 3) := by decide +kernel
theorem dX8_setSpring_63 : decode cX8_setSpring 63 = .ok (.if_icmp .ge 78, 3) := by decide +kernel
theorem dX8_setSpring_66 : decode cX8_setSpring 66 = .ok (.aload_n 0, 1) := by decide +kernel
theorem dX8_setSpring_67 : decode cX8_setSpring 67 = .ok (.getfield 22, 3) := by decide +kernel
theorem dX8_setSpring_70 : decode cX8_setSpring 70 = .ok (.iload 4, 2) := by decide +kernel
theorem dX8_setSpring_72 : decode cX8_setSpring 72 = .ok (.iaload, 1) := by decide +kernel
theorem dX8_setSpring_73 : decode cX8_setSpring 73 = .ok (.bipush (-2), 2) := by decide +kernel
theorem dX8_setSpring_75 : decode cX8_setSpring 75 = .ok (.if_icmp .eq 20, 3) := by decide +kernel
theorem dX8_setSpring_78 : decode cX8_setSpring 78 = .ok (.aload_n 0, 1) := by decide +kernel
theorem dX8_setSpring_79 : decode cX8_setSpring 79 = .ok (.iload 4, 2) := by decide +kernel
theorem dX8_setSpring_81 : decode cX8_setSpring 81 = .ok (.bipush 6, 2) := by decide +kernel
theorem dX8_setSpring_83 : decode cX8_setSpring 83 = .ok (.iload_n 1, 1) := by decide +kernel
theorem dX8_setSpring_84 : decode cX8_setSpring 84 = .ok (.iadd, 1) := by decide +kernel
theorem dX8_setSpring_85 : decode cX8_setSpring 85 = .ok (.invokevirtual 181, 3) := by decide +kernel
theorem dX8_setSpring_88 : decode cX8_setSpring 88 = .ok (.ifCond .eq 7, 3) := by decide +kernel
theorem dX8_setSpring_91 : decode cX8_setSpring 91 = .ok (.iconst 1, 1) := by decide +kernel
theorem dX8_setSpring_92 : decode cX8_setSpring 92 = .ok (.goto 4, 3) := by decide +kernel
theorem dX8_setSpring_95 : decode cX8_setSpring 95 = .ok (.iconst 0, 1) := by decide +kernel
theorem dX8_setSpring_96 : decode cX8_setSpring 96 = .ok (.istore 5, 2) := by decide +kernel
theorem dX8_setSpring_98 : decode cX8_setSpring 98 = .ok (.aload_n 0, 1) := by decide +kernel
theorem dX8_setSpring_99 : decode cX8_setSpring 99 = .ok (.getfield 22, 3) := by decide +kernel
theorem dX8_setSpring_102 : decode cX8_setSpring 102 = .ok (.iload 4, 2) := by decide +kernel
theorem dX8_setSpring_104 : decode cX8_setSpring 104 = .ok (.iload 5, 2) := by decide +kernel
theorem dX8_setSpring_106 : decode cX8_setSpring 106 = .ok (.ifCond .eq 8, 3) := by decide +kernel
theorem dX8_setSpring_109 : decode cX8_setSpring 109 = .ok (.bipush (-2), 2) := by decide +kernel
theorem dX8_setSpring_111 : decode cX8_setSpring 111 = .ok (.goto 10, 3) := by decide +kernel
theorem dX8_setSpring_114 : decode cX8_setSpring 114 = .ok (.aload_n 0, 1) := by decide +kernel
theorem dX8_setSpring_115 : decode cX8_setSpring 115 = .ok (.getfield 22, 3) := by decide +kernel
theorem dX8_setSpring_118 : decode cX8_setSpring 118 = .ok (.iload 4, 2) := by decide +kernel
theorem dX8_setSpring_120 : decode cX8_setSpring 120 = .ok (.iaload, 1) := by decide +kernel
theorem dX8_setSpring_121 : decode cX8_setSpring 121 = .ok (.iastore, 1) := by decide +kernel
theorem dX8_setSpring_122 : decode cX8_setSpring 122 = .ok (.iload_n 3, 1) := by decide +kernel
theorem dX8_setSpring_123 : decode cX8_setSpring 123 = .ok (.iload 5, 2) := by decide +kernel
theorem dX8_setSpring_125 : decode cX8_setSpring 125 = .ok (.ifCond .eq 7, 3) := by decide +kernel
theorem dX8_setSpring_128 : decode cX8_setSpring 128 = .ok (.iconst 1, 1) := by decide +kernel
theorem dX8_setSpring_129 : decode cX8_setSpring 129 = .ok (.goto 4, 3) := by decide +kernel
theorem dX8_setSpring_132 : decode cX8_setSpring 132 = .ok (.iconst 0, 1) := by decide +kernel
theorem dX8_setSpring_133 : decode cX8_setSpring 133 = .ok (.iadd, 1) := by decide +kernel
theorem dX8_setSpring_134 : decode cX8_setSpring 134 = .ok (.istore_n 3, 1) := by decide +kernel
theorem dX8_setSpring_135 : decode cX8_setSpring 135 = .ok (.iinc 4 1, 3) := by decide +kernel
theorem dX8_setSpring_138 : decode cX8_setSpring 138 = .ok (.goto (-81), 3) := by decide +kernel
theorem dX8_setSpring_141 : decode cX8_setSpring 141 = .ok (.iconst 0, 1) := by decide +kernel
theorem dX8_setSpring_142 : decode cX8_setSpring 142 = .ok (.istore 4, 2) := by decide +kernel
theorem dX8_setSpring_144 : decode cX8_setSpring 144 = .ok (.iload 4, 2) := by decide +kernel
theorem dX8_setSpring_146 : decode cX8_setSpring 146 = .ok (.aload_n 0, 1) := by decide +kernel
theorem dX8_setSpring_147 : decode cX8_setSpring 147 = .ok (.getfield 112, 3) := by decide +kernel
theorem dX8_setSpring_150 : decode cX8_setSpring 150 = .ok (.if_icmp .ge 28, 3) := by decide +kernel
theorem dX8_setSpring_153 : decode cX8_setSpring 153 = .ok (.aload_n 0, 1) := by decide +kernel
theorem dX8_setSpring_154 : decode cX8_setSpring 154 = .ok (.iload 4, 2) := by decide +kernel
theorem dX8_setSpring_156 : decode cX8_setSpring 156 = .ok (.bipush 6, 2) := by decide +kernel
theorem dX8_setSpring_158 : decode cX8_setSpring 158 = .ok (.iload_n 1, 1) := by decide +kernel
theorem dX8_setSpring_159 : decode cX8_setSpring 159 = .ok (.iadd, 1) := by decide +kernel
theorem dX8_setSpring_160 : decode cX8_setSpring 160 = .ok (.invokevirtual 184, 3) := by decide +kernel
theorem dX8_setSpring_163 : decode cX8_setSpring 163 = .ok (.ifCond .eq 9, 3) := by decide +kernel
theorem dX8_setSpring_166 : decode cX8_setSpring 166 = .ok (.aload_n 0, 1) := by decide +kernel
theorem dX8_setSpring_167 : decode cX8_setSpring 167 = .ok (.iload 4, 2) := by decide +kernel
theorem dX8_setSpring_169 : decode cX8_setSpring 169 = .ok (.invokevirtual 187, 3) := by decide +kernel
theorem dX8_setSpring_172 : decode cX8_setSpring 172 = .ok (.iinc 4 1, 3) := by decide +kernel
theorem dX8_setSpring_175 : decode cX8_setSpring 175 = .ok (.goto (-31), 3) := by decide +kernel
theorem dX8_setSpring_178 : decode cX8_setSpring 178 = .ok (.iload_n 3, 1) := by decide +kernel
theorem dX8_setSpring_179 : decode cX8_setSpring 179 = .ok (.ireturn, 1) := by decide +kernel
set_option maxRecDepth 20000 in
theorem ggX8_prove_X8_isLevel : GoodIn wsX8_prove wsX8_isLevel := goodIn_r _ [8, 9, 10, 11, 7, 12, 58, 59, 60, 61, 62, 63, 64, 65, 66, 67, 68, 69, 70, 71, 72, 73, 74, 75, 76, 77, 78, 79, 80, 81, 82, 83, 84, 85, 86, 87, 88, 89, 90, 91, 92, 93, 94, 95] (by decide +kernel) (by decide +kernel)
set_option maxRecDepth 20000 in
theorem gX8_prove_X8_isLevel : GoodIn wsX8_prove (wsV RX8 161 RX8 yX8_isLevel wsX8_isLevel) := goodIn_app (goodIn_of _ (by decide +kernel)) ggX8_prove_X8_isLevel
set_option maxRecDepth 20000 in
theorem ggX8_prove_X8_fails : GoodIn wsX8_prove wsX8_fails := goodIn_r _ [16, 1, 58, 59, 60, 61, 62, 63, 64, 65, 66, 67, 68, 69, 70, 71, 72, 73, 74, 75, 76, 77, 78, 79, 80, 81, 82, 83, 84, 85, 86, 87, 88, 89, 90, 91, 92, 93, 94, 95] (by decide +kernel) (by decide +kernel)
set_option maxRecDepth 20000 in
theorem gX8_prove_X8_fails : GoodIn wsX8_prove (wsV RX8 153 RX8 yX8_fails wsX8_fails) := goodIn_app (goodIn_of _ (by decide +kernel)) ggX8_prove_X8_fails
set_option maxRecDepth 20000 in
theorem ggX8_prove_X8_lays : GoodIn wsX8_prove wsX8_lays := goodIn_r _ [20, 21, 22, 23, 24, 25, 58, 59, 60, 61, 62, 63, 64, 65, 66, 67, 68, 69, 70, 71, 72, 73, 74, 75, 76, 77, 78, 79, 80, 81, 82, 83, 84, 85, 86, 87, 88, 89, 90, 91, 92, 93, 94, 95] (by decide +kernel) (by decide +kernel)
set_option maxRecDepth 20000 in
theorem gX8_prove_X8_lays : GoodIn wsX8_prove (wsV RX8 174 RX8 yX8_lays wsX8_lays) := goodIn_app (goodIn_of _ (by decide +kernel)) ggX8_prove_X8_lays
set_option maxRecDepth 20000 in
theorem ggX8_prove_X8_searches : GoodIn wsX8_prove wsX8_searches := goodIn_r _ [29, 30, 31, 32, 33, 34, 35, 36, 37, 38, 39, 7, 40, 41, 42, 43, 44, 25, 22, 45, 46, 47, 48, 49, 50, 51, 52, 53, 54, 55, 56, 57, 21, 10, 11, 12, 58, 59, 60, 61, 62, 63, 64, 65, 66, 67, 68, 69, 70, 71, 72, 73, 74, 75, 76, 77, 78, 79, 80, 81, 82, 83, 84, 85, 86, 87, 88, 89, 90, 91, 92, 93, 94, 95] (by decide +kernel) (by decide +kernel)
set_option maxRecDepth 20000 in
theorem gX8_prove_X8_searches : GoodIn wsX8_prove (wsV RX8 178 RX8 yX8_searches wsX8_searches) := goodIn_app (goodIn_of _ (by decide +kernel)) ggX8_prove_X8_searches
theorem dX8_prove_0 : decode cX8_prove 0 = .ok (.aload_n 0, 1) := by decide +kernel
theorem dX8_prove_1 : decode cX8_prove 1 = .ok (.iconst 0, 1) := by decide +kernel
theorem dX8_prove_2 : decode cX8_prove 2 = .ok (.putfield 101, 3) := by decide +kernel
theorem dX8_prove_5 : decode cX8_prove 5 = .ok (.aload_n 0, 1) := by decide +kernel
theorem dX8_prove_6 : decode cX8_prove 6 = .ok (.iload_n 1, 1) := by decide +kernel
theorem dX8_prove_7 : decode cX8_prove 7 = .ok (.invokevirtual 161, 3) := by decide +kernel
theorem dX8_prove_10 : decode cX8_prove 10 = .ok (.ifCond .ne 9, 3) := by decide +kernel
theorem dX8_prove_13 : decode cX8_prove 13 = .ok (.aload_n 0, 1) := by decide +kernel
theorem dX8_prove_14 : decode cX8_prove 14 = .ok (.iconst 1, 1) := by decide +kernel
theorem dX8_prove_15 : decode cX8_prove 15 = .ok (.invokevirtual 153, 3) := by decide +kernel
theorem dX8_prove_18 : decode cX8_prove 18 = .ok (.ireturn, 1) := by decide +kernel
theorem dX8_prove_19 : decode cX8_prove 19 = .ok (.aload_n 0, 1) := by decide +kernel
theorem dX8_prove_20 : decode cX8_prove 20 = .ok (.iconst 0, 1) := by decide +kernel
theorem dX8_prove_21 : decode cX8_prove 21 = .ok (.iload_n 1, 1) := by decide +kernel
theorem dX8_prove_22 : decode cX8_prove 22 = .ok (.invokevirtual 174, 3) := by decide +kernel
theorem dX8_prove_25 : decode cX8_prove 25 = .ok (.aload_n 0, 1) := by decide +kernel
theorem dX8_prove_26 : decode cX8_prove 26 = .ok (.getfield 22, 3) := by decide +kernel
theorem dX8_prove_29 : decode cX8_prove 29 = .ok (.iload_n 1, 1) := by decide +kernel
theorem dX8_prove_30 : decode cX8_prove 30 = .ok (.aload_n 0, 1) := by decide +kernel
theorem dX8_prove_31 : decode cX8_prove 31 = .ok (.aload_n 0, 1) := by decide +kernel
theorem dX8_prove_32 : decode cX8_prove 32 = .ok (.getfield 19, 3) := by decide +kernel
theorem dX8_prove_35 : decode cX8_prove 35 = .ok (.iload_n 1, 1) := by decide +kernel
theorem dX8_prove_36 : decode cX8_prove 36 = .ok (.iaload, 1) := by decide +kernel
theorem dX8_prove_37 : decode cX8_prove 37 = .ok (.invokevirtual 178, 3) := by decide +kernel
theorem dX8_prove_40 : decode cX8_prove 40 = .ok (.iastore, 1) := by decide +kernel
theorem dX8_prove_41 : decode cX8_prove 41 = .ok (.aload_n 0, 1) := by decide +kernel
theorem dX8_prove_42 : decode cX8_prove 42 = .ok (.getfield 22, 3) := by decide +kernel
theorem dX8_prove_45 : decode cX8_prove 45 = .ok (.iload_n 1, 1) := by decide +kernel
theorem dX8_prove_46 : decode cX8_prove 46 = .ok (.iaload, 1) := by decide +kernel
theorem dX8_prove_47 : decode cX8_prove 47 = .ok (.ireturn, 1) := by decide +kernel
set_option maxRecDepth 20000 in
theorem ggX8_offer_X8_isLevel : GoodIn wsX8_offer wsX8_isLevel := goodIn_r _ [18, 19, 20, 21, 17, 22, 27, 28, 29, 30, 31, 32, 33, 34, 35, 36, 37, 38, 39, 40, 41, 42, 43, 44, 45, 46, 47, 48, 49, 50, 51, 52, 53, 54, 55, 56, 57, 58, 59, 60, 61, 62, 63, 64] (by decide +kernel) (by decide +kernel)
set_option maxRecDepth 20000 in
theorem gX8_offer_X8_isLevel : GoodIn wsX8_offer (wsV RX8 161 RX8 yX8_isLevel wsX8_isLevel) := goodIn_app (goodIn_of _ (by decide +kernel)) ggX8_offer_X8_isLevel
set_option maxRecDepth 20000 in
theorem ggX8_offer_X8_fails : GoodIn wsX8_offer wsX8_fails := goodIn_r _ [26, 1, 27, 28, 29, 30, 31, 32, 33, 34, 35, 36, 37, 38, 39, 40, 41, 42, 43, 44, 45, 46, 47, 48, 49, 50, 51, 52, 53, 54, 55, 56, 57, 58, 59, 60, 61, 62, 63, 64] (by decide +kernel) (by decide +kernel)
set_option maxRecDepth 20000 in
theorem gX8_offer_X8_fails : GoodIn wsX8_offer (wsV RX8 153 RX8 yX8_fails wsX8_fails) := goodIn_app (goodIn_of _ (by decide +kernel)) ggX8_offer_X8_fails
theorem dX8_offer_0 : decode cX8_offer 0 = .ok (.aload_n 0, 1) := by decide +kernel
theorem dX8_offer_1 : decode cX8_offer 1 = .ok (.iconst 0, 1) := by decide +kernel
theorem dX8_offer_2 : decode cX8_offer 2 = .ok (.putfield 101, 3) := by decide +kernel
theorem dX8_offer_5 : decode cX8_offer 5 = .ok (.aload_n 0, 1) := by decide +kernel
theorem dX8_offer_6 : decode cX8_offer 6 = .ok (.iload_n 1, 1) := by decide +kernel
theorem dX8_offer_7 : decode cX8_offer 7 = .ok (.invokevirtual 161, 3) := by decide +kernel
theorem dX8_offer_10 : decode cX8_offer 10 = .ok (.ifCond .ne 9, 3) := by decide +kernel
theorem dX8_offer_13 : decode cX8_offer 13 = .ok (.aload_n 0, 1) := by decide +kernel
theorem dX8_offer_14 : decode cX8_offer 14 = .ok (.iconst 1, 1) := by decide +kernel
theorem dX8_offer_15 : decode cX8_offer 15 = .ok (.invokevirtual 153, 3) := by decide +kernel
theorem dX8_offer_18 : decode cX8_offer 18 = .ok (.ireturn, 1) := by decide +kernel
theorem dX8_offer_19 : decode cX8_offer 19 = .ok (.aload_n 0, 1) := by decide +kernel
theorem dX8_offer_20 : decode cX8_offer 20 = .ok (.getfield 22, 3) := by decide +kernel
theorem dX8_offer_23 : decode cX8_offer 23 = .ok (.iload_n 1, 1) := by decide +kernel
theorem dX8_offer_24 : decode cX8_offer 24 = .ok (.iaload, 1) := by decide +kernel
theorem dX8_offer_25 : decode cX8_offer 25 = .ok (.ifCond .lt 12, 3) := by decide +kernel
theorem dX8_offer_28 : decode cX8_offer 28 = .ok (.aload_n 0, 1) := by decide +kernel
theorem dX8_offer_29 : decode cX8_offer 29 = .ok (.getfield 112, 3) := by decide +kernel
theorem dX8_offer_32 : decode cX8_offer 32 = .ok (.bipush 20, 2) := by decide +kernel
theorem dX8_offer_34 : decode cX8_offer 34 = .ok (.if_icmp .ne 9, 3) := by decide +kernel
theorem dX8_offer_37 : decode cX8_offer 37 = .ok (.aload_n 0, 1) := by decide +kernel
theorem dX8_offer_38 : decode cX8_offer 38 = .ok (.iconst 2, 1) := by decide +kernel
theorem dX8_offer_39 : decode cX8_offer 39 = .ok (.invokevirtual 153, 3) := by decide +kernel
theorem dX8_offer_42 : decode cX8_offer 42 = .ok (.ireturn, 1) := by decide +kernel
theorem dX8_offer_43 : decode cX8_offer 43 = .ok (.iconst 0, 1) := by decide +kernel
theorem dX8_offer_44 : decode cX8_offer 44 = .ok (.istore_n 2, 1) := by decide +kernel
theorem dX8_offer_45 : decode cX8_offer 45 = .ok (.iload_n 2, 1) := by decide +kernel
theorem dX8_offer_46 : decode cX8_offer 46 = .ok (.bipush 96, 2) := by decide +kernel
theorem dX8_offer_48 : decode cX8_offer 48 = .ok (.if_icmp .ge 34, 3) := by decide +kernel
theorem dX8_offer_51 : decode cX8_offer 51 = .ok (.aload_n 0, 1) := by decide +kernel
theorem dX8_offer_52 : decode cX8_offer 52 = .ok (.getfield 49, 3) := by decide +kernel
theorem dX8_offer_55 : decode cX8_offer 55 = .ok (.bipush 96, 2) := by decide +kernel
theorem dX8_offer_57 : decode cX8_offer 57 = .ok (.aload_n 0, 1) := by decide +kernel
theorem dX8_offer_58 : decode cX8_offer 58 = .ok (.getfield 112, 3) := by decide +kernel
theorem dX8_offer_61 : decode cX8_offer 61 = .ok (.imul, 1) := by decide +kernel
theorem dX8_offer_62 : decode cX8_offer 62 = .ok (.iload_n 2, 1) := by decide +kernel
theorem dX8_offer_63 : decode cX8_offer 63 = .ok (.iadd, 1) := by decide +kernel
theorem dX8_offer_64 : decode cX8_offer 64 = .ok (.aload_n 0, 1) := by decide +kernel
theorem dX8_offer_65 : decode cX8_offer 65 = .ok (.getfield 16, 3) := by decide +kernel
theorem dX8_offer_68 : decode cX8_offer 68 = .ok (.bipush 96, 2) := by decide +kernel
theorem dX8_offer_70 : decode cX8_offer 70 = .ok (.iload_n 1, 1) := by decide +kernel
theorem dX8_offer_71 : decode cX8_offer 71 = .ok (.imul, 1) := by decide +kernel
theorem dX8_offer_72 : decode cX8_offer 72 = .ok (.iload_n 2, 1) := by decide +kernel
theorem dX8_offer_73 : decode cX8_offer 73 = .ok (.iadd, 1) := by decide +kernel
theorem dX8_offer_74 : decode cX8_offer 74 = .ok (.iaload, 1) := by decide +kernel
theorem dX8_offer_75 : decode cX8_offer 75 = .ok (.iastore, 1) := by decide +kernel
theorem dX8_offer_76 : decode cX8_offer 76 = .ok (.iinc 2 1, 3) := by decide +kernel
theorem dX8_offer_79 : decode cX8_offer 79 = .ok (.goto (-34), 3) := by decide +kernel
theorem dX8_offer_82 : decode cX8_offer 82 = .ok (.aload_n 0, 1) := by decide +kernel
theorem dX8_offer_83 : decode cX8_offer 83 = .ok (.getfield 46, 3) := by decide +kernel
theorem dX8_offer_86 : decode cX8_offer 86 = .ok (.aload_n 0, 1) := by decide +kernel
theorem dX8_offer_87 : decode cX8_offer 87 = .ok (.getfield 112, 3) := by decide +kernel
theorem dX8_offer_90 : decode cX8_offer 90 = .ok (.aload_n 0, 1) := by decide +kernel
theorem dX8_offer_91 : decode cX8_offer 91 = .ok (.getfield 13, 3) := by decide +kernel
theorem dX8_offer_94 : decode cX8_offer 94 = .ok (.iload_n 1, 1) := by decide +kernel
theorem dX8_offer_95 : decode cX8_offer 95 = .ok (.iaload, 1) := by decide +kernel
theorem dX8_offer_96 : decode cX8_offer 96 = .ok (.iastore, 1) := by decide +kernel
theorem dX8_offer_97 : decode cX8_offer 97 = .ok (.aload_n 0, 1) := by decide +kernel
theorem dX8_offer_98 : decode cX8_offer 98 = .ok (.getfield 52, 3) := by decide +kernel
theorem dX8_offer_101 : decode cX8_offer 101 = .ok (.aload_n 0, 1) := by decide +kernel
theorem dX8_offer_102 : decode cX8_offer 102 = .ok (.getfield 112, 3) := by decide +kernel
theorem dX8_offer_105 : decode cX8_offer 105 = .ok (.aload_n 0, 1) := by decide +kernel
theorem dX8_offer_106 : decode cX8_offer 106 = .ok (.getfield 19, 3) := by decide +kernel
theorem dX8_offer_109 : decode cX8_offer 109 = .ok (.iload_n 1, 1) := by decide +kernel
theorem dX8_offer_110 : decode cX8_offer 110 = .ok (.iaload, 1) := by decide +kernel
theorem dX8_offer_111 : decode cX8_offer 111 = .ok (.iastore, 1) := by decide +kernel
theorem dX8_offer_112 : decode cX8_offer 112 = .ok (.aload_n 0, 1) := by decide +kernel
theorem dX8_offer_113 : decode cX8_offer 113 = .ok (.getfield 55, 3) := by decide +kernel
theorem dX8_offer_116 : decode cX8_offer 116 = .ok (.aload_n 0, 1) := by decide +kernel
theorem dX8_offer_117 : decode cX8_offer 117 = .ok (.getfield 112, 3) := by decide +kernel
theorem dX8_offer_120 : decode cX8_offer 120 = .ok (.aload_n 0, 1) := by decide +kernel
theorem dX8_offer_121 : decode cX8_offer 121 = .ok (.getfield 22, 3) := by decide +kernel
theorem dX8_offer_124 : decode cX8_offer 124 = .ok (.iload_n 1, 1) := by decide +kernel
theorem dX8_offer_125 : decode cX8_offer 125 = .ok (.iaload, 1) := by decide +kernel
theorem dX8_offer_126 : decode cX8_offer 126 = .ok (.iastore, 1) := by decide +kernel
theorem dX8_offer_127 : decode cX8_offer 127 = .ok (.aload_n 0, 1) := by decide +kernel
theorem dX8_offer_128 : decode cX8_offer 128 = .ok (.getfield 58, 3) := by decide +kernel
theorem dX8_offer_131 : decode cX8_offer 131 = .ok (.aload_n 0, 1) := by decide +kernel
theorem dX8_offer_132 : decode cX8_offer 132 = .ok (.getfield 112, 3) := by decide +kernel
theorem dX8_offer_135 : decode cX8_offer 135 = .ok (.aload_n 0, 1) := by decide +kernel
theorem dX8_offer_136 : decode cX8_offer 136 = .ok (.getfield 25, 3) := by decide +kernel
theorem dX8_offer_139 : decode cX8_offer 139 = .ok (.iload_n 1, 1) := by decide +kernel
theorem dX8_offer_140 : decode cX8_offer 140 = .ok (.iaload, 1) := by decide +kernel
theorem dX8_offer_141 : decode cX8_offer 141 = .ok (.iastore, 1) := by decide +kernel
theorem dX8_offer_142 : decode cX8_offer 142 = .ok (.aload_n 0, 1) := by decide +kernel
theorem dX8_offer_143 : decode cX8_offer 143 = .ok (.getfield 61, 3) := by decide +kernel
theorem dX8_offer_146 : decode cX8_offer 146 = .ok (.aload_n 0, 1) := by decide +kernel
theorem dX8_offer_147 : decode cX8_offer 147 = .ok (.getfield 112, 3) := by decide +kernel
theorem dX8_offer_150 : decode cX8_offer 150 = .ok (.iconst (-1), 1) := by decide +kernel
theorem dX8_offer_151 : decode cX8_offer 151 = .ok (.iastore, 1) := by decide +kernel
theorem dX8_offer_152 : decode cX8_offer 152 = .ok (.aload_n 0, 1) := by decide +kernel
theorem dX8_offer_153 : decode cX8_offer 153 = .ok (.dup, 1) := by decide +kernel
theorem dX8_offer_154 : decode cX8_offer 154 = .ok (.getfield 112, 3) := by decide +kernel
theorem dX8_offer_157 : decode cX8_offer 157 = .ok (.iconst 1, 1) := by decide +kernel
theorem dX8_offer_158 : decode cX8_offer 158 = .ok (.iadd, 1) := by decide +kernel
theorem dX8_offer_159 : decode cX8_offer 159 = .ok (.putfield 112, 3) := by decide +kernel
theorem dX8_offer_162 : decode cX8_offer 162 = .ok (.aload_n 0, 1) := by decide +kernel
theorem dX8_offer_163 : decode cX8_offer 163 = .ok (.getfield 112, 3) := by decide +kernel
theorem dX8_offer_166 : decode cX8_offer 166 = .ok (.iconst 1, 1) := by decide +kernel
theorem dX8_offer_167 : decode cX8_offer 167 = .ok (.isub, 1) := by decide +kernel
theorem dX8_offer_168 : decode cX8_offer 168 = .ok (.ireturn, 1) := by decide +kernel
set_option maxRecDepth 20000 in
theorem ggX8_copy_X8_isWork : GoodIn wsX8_copy wsX8_isWork := goodIn_r _ [11, 12, 13, 14, 10, 15, 31, 32, 33, 34, 35, 36, 37, 38, 39, 40, 41, 42, 43, 44, 45, 46, 47, 48, 49, 50, 51, 52, 53, 54, 55, 56, 57, 58, 59, 60, 61, 62, 63, 64, 65, 66, 67, 68] (by decide +kernel) (by decide +kernel)
set_option maxRecDepth 20000 in
theorem gX8_copy_X8_isWork : GoodIn wsX8_copy (wsV RX8 190 RX8 yX8_isWork wsX8_isWork) := goodIn_app (goodIn_of _ (by decide +kernel)) ggX8_copy_X8_isWork
set_option maxRecDepth 20000 in
theorem ggX8_copy_X8_isPerson : GoodIn wsX8_copy wsX8_isPerson := goodIn_r _ [18, 13, 14, 10, 15] (by decide +kernel) (by decide +kernel)
set_option maxRecDepth 20000 in
theorem gX8_copy_X8_isPerson : GoodIn wsX8_copy (va_wsS RX8 149 yX8_isPerson wsX8_isPerson) := goodIn_app (goodIn_of _ (by decide +kernel)) ggX8_copy_X8_isPerson
set_option maxRecDepth 20000 in
theorem ggX8_copy_X8_fails : GoodIn wsX8_copy wsX8_fails := goodIn_r _ [22, 1, 31, 32, 33, 34, 35, 36, 37, 38, 39, 40, 41, 42, 43, 44, 45, 46, 47, 48, 49, 50, 51, 52, 53, 54, 55, 56, 57, 58, 59, 60, 61, 62, 63, 64, 65, 66, 67, 68] (by decide +kernel) (by decide +kernel)
set_option maxRecDepth 20000 in
theorem gX8_copy_X8_fails : GoodIn wsX8_copy (wsV RX8 153 RX8 yX8_fails wsX8_fails) := goodIn_app (goodIn_of _ (by decide +kernel)) ggX8_copy_X8_fails
set_option maxRecDepth 20000 in
theorem ggX8_copy_X8_opens : GoodIn wsX8_copy wsX8_opens := goodIn_r _ [26, 27, 3, 28, 29, 30, 31, 32, 33, 34, 35, 36, 37, 38, 39, 40, 41, 42, 43, 44, 45, 46, 47, 48, 49, 50, 51, 52, 53, 54, 55, 56, 57, 58, 59, 60, 61, 62, 63, 64, 65, 66, 67, 68] (by decide +kernel) (by decide +kernel)
set_option maxRecDepth 20000 in
theorem gX8_copy_X8_opens : GoodIn wsX8_copy (wsV RX8 157 RX8 yX8_opens wsX8_opens) := goodIn_app (goodIn_of _ (by decide +kernel)) ggX8_copy_X8_opens
theorem dX8_copy_0 : decode cX8_copy 0 = .ok (.aload_n 0, 1) := by decide +kernel
theorem dX8_copy_1 : decode cX8_copy 1 = .ok (.iconst 0, 1) := by decide +kernel
theorem dX8_copy_2 : decode cX8_copy 2 = .ok (.putfield 101, 3) := by decide +kernel
theorem dX8_copy_5 : decode cX8_copy 5 = .ok (.aload_n 0, 1) := by decide +kernel
theorem dX8_copy_6 : decode cX8_copy 6 = .ok (.iload_n 1, 1) := by decide +kernel
theorem dX8_copy_7 : decode cX8_copy 7 = .ok (.invokevirtual 190, 3) := by decide +kernel
theorem dX8_copy_10 : decode cX8_copy 10 = .ok (.ifCond .eq 10, 3) := by decide +kernel
theorem dX8_copy_13 : decode cX8_copy 13 = .ok (.iload_n 2, 1) := by decide +kernel
theorem dX8_copy_14 : decode cX8_copy 14 = .ok (.invokestatic 149, 3) := by decide +kernel
theorem dX8_copy_17 : decode cX8_copy 17 = .ok (.ifCond .ne 9, 3) := by decide +kernel
theorem dX8_copy_20 : decode cX8_copy 20 = .ok (.aload_n 0, 1) := by decide +kernel
theorem dX8_copy_21 : decode cX8_copy 21 = .ok (.iconst 1, 1) := by decide +kernel
theorem dX8_copy_22 : decode cX8_copy 22 = .ok (.invokevirtual 153, 3) := by decide +kernel
theorem dX8_copy_25 : decode cX8_copy 25 = .ok (.ireturn, 1) := by decide +kernel
theorem dX8_copy_26 : decode cX8_copy 26 = .ok (.aload_n 0, 1) := by decide +kernel
theorem dX8_copy_27 : decode cX8_copy 27 = .ok (.getfield 55, 3) := by decide +kernel
theorem dX8_copy_30 : decode cX8_copy 30 = .ok (.iload_n 1, 1) := by decide +kernel
theorem dX8_copy_31 : decode cX8_copy 31 = .ok (.iaload, 1) := by decide +kernel
theorem dX8_copy_32 : decode cX8_copy 32 = .ok (.iconst (-1), 1) := by decide +kernel
theorem dX8_copy_33 : decode cX8_copy 33 = .ok (.if_icmp .eq 12, 3) := by decide +kernel
theorem dX8_copy_36 : decode cX8_copy 36 = .ok (.aload_n 0, 1) := by decide +kernel
theorem dX8_copy_37 : decode cX8_copy 37 = .ok (.getfield 109, 3) := by decide +kernel
theorem dX8_copy_40 : decode cX8_copy 40 = .ok (.bipush 12, 2) := by decide +kernel
theorem dX8_copy_42 : decode cX8_copy 42 = .ok (.if_icmp .ne 9, 3) := by decide +kernel
theorem dX8_copy_45 : decode cX8_copy 45 = .ok (.aload_n 0, 1) := by decide +kernel
theorem dX8_copy_46 : decode cX8_copy 46 = .ok (.iconst 2, 1) := by decide +kernel
theorem dX8_copy_47 : decode cX8_copy 47 = .ok (.invokevirtual 153, 3) := by decide +kernel
theorem dX8_copy_50 : decode cX8_copy 50 = .ok (.ireturn, 1) := by decide +kernel
theorem dX8_copy_51 : decode cX8_copy 51 = .ok (.iconst 0, 1) := by decide +kernel
theorem dX8_copy_52 : decode cX8_copy 52 = .ok (.istore_n 3, 1) := by decide +kernel
theorem dX8_copy_53 : decode cX8_copy 53 = .ok (.iload_n 3, 1) := by decide +kernel
theorem dX8_copy_54 : decode cX8_copy 54 = .ok (.bipush 96, 2) := by decide +kernel
theorem dX8_copy_56 : decode cX8_copy 56 = .ok (.if_icmp .ge 34, 3) := by decide +kernel
theorem dX8_copy_59 : decode cX8_copy 59 = .ok (.aload_n 0, 1) := by decide +kernel
theorem dX8_copy_60 : decode cX8_copy 60 = .ok (.getfield 16, 3) := by decide +kernel
theorem dX8_copy_63 : decode cX8_copy 63 = .ok (.bipush 96, 2) := by decide +kernel
theorem dX8_copy_65 : decode cX8_copy 65 = .ok (.aload_n 0, 1) := by decide +kernel
theorem dX8_copy_66 : decode cX8_copy 66 = .ok (.getfield 109, 3) := by decide +kernel
theorem dX8_copy_69 : decode cX8_copy 69 = .ok (.imul, 1) := by decide +kernel
theorem dX8_copy_70 : decode cX8_copy 70 = .ok (.iload_n 3, 1) := by decide +kernel
theorem dX8_copy_71 : decode cX8_copy 71 = .ok (.iadd, 1) := by decide +kernel
theorem dX8_copy_72 : decode cX8_copy 72 = .ok (.aload_n 0, 1) := by decide +kernel
theorem dX8_copy_73 : decode cX8_copy 73 = .ok (.getfield 49, 3) := by decide +kernel
theorem dX8_copy_76 : decode cX8_copy 76 = .ok (.bipush 96, 2) := by decide +kernel
theorem dX8_copy_78 : decode cX8_copy 78 = .ok (.iload_n 1, 1) := by decide +kernel
theorem dX8_copy_79 : decode cX8_copy 79 = .ok (.imul, 1) := by decide +kernel
theorem dX8_copy_80 : decode cX8_copy 80 = .ok (.iload_n 3, 1) := by decide +kernel
theorem dX8_copy_81 : decode cX8_copy 81 = .ok (.iadd, 1) := by decide +kernel
theorem dX8_copy_82 : decode cX8_copy 82 = .ok (.iaload, 1) := by decide +kernel
theorem dX8_copy_83 : decode cX8_copy 83 = .ok (.iastore, 1) := by decide +kernel
theorem dX8_copy_84 : decode cX8_copy 84 = .ok (.iinc 3 1, 3) := by decide +kernel
theorem dX8_copy_87 : decode cX8_copy 87 = .ok (.goto (-34), 3) := by decide +kernel
theorem dX8_copy_90 : decode cX8_copy 90 = .ok (.aload_n 0, 1) := by decide +kernel
theorem dX8_copy_91 : decode cX8_copy 91 = .ok (.iload_n 2, 1) := by decide +kernel
theorem dX8_copy_92 : decode cX8_copy 92 = .ok (.aload_n 0, 1) := by decide +kernel
theorem dX8_copy_93 : decode cX8_copy 93 = .ok (.getfield 52, 3) := by decide +kernel
theorem dX8_copy_96 : decode cX8_copy 96 = .ok (.iload_n 1, 1) := by decide +kernel
theorem dX8_copy_97 : decode cX8_copy 97 = .ok (.iaload, 1) := by decide +kernel
theorem dX8_copy_98 : decode cX8_copy 98 = .ok (.iload_n 1, 1) := by decide +kernel
theorem dX8_copy_99 : decode cX8_copy 99 = .ok (.invokevirtual 157, 3) := by decide +kernel
theorem dX8_copy_102 : decode cX8_copy 102 = .ok (.ireturn, 1) := by decide +kernel
set_option maxRecDepth 20000 in
theorem ggX8_star_X8_isWork : GoodIn wsX8_star wsX8_isWork := goodIn_r _ [9, 10, 11, 12, 8, 13, 21, 22, 23, 24, 25, 26, 27, 28, 29, 30, 31, 32, 33, 34, 35, 36, 37, 38, 39, 40, 41, 42, 43, 44, 45, 46, 47, 48, 49, 50, 51, 52, 53, 54, 55, 56, 57, 58] (by decide +kernel) (by decide +kernel)
set_option maxRecDepth 20000 in
theorem gX8_star_X8_isWork : GoodIn wsX8_star (wsV RX8 190 RX8 yX8_isWork wsX8_isWork) := goodIn_app (goodIn_of _ (by decide +kernel)) ggX8_star_X8_isWork
set_option maxRecDepth 20000 in
theorem ggX8_star_X8_isPerson : GoodIn wsX8_star wsX8_isPerson := goodIn_r _ [16, 11, 12, 8, 13] (by decide +kernel) (by decide +kernel)
set_option maxRecDepth 20000 in
theorem gX8_star_X8_isPerson : GoodIn wsX8_star (va_wsS RX8 149 yX8_isPerson wsX8_isPerson) := goodIn_app (goodIn_of _ (by decide +kernel)) ggX8_star_X8_isPerson
set_option maxRecDepth 20000 in
theorem ggX8_star_X8_fails : GoodIn wsX8_star wsX8_fails := goodIn_r _ [20, 1, 21, 22, 23, 24, 25, 26, 27, 28, 29, 30, 31, 32, 33, 34, 35, 36, 37, 38, 39, 40, 41, 42, 43, 44, 45, 46, 47, 48, 49, 50, 51, 52, 53, 54, 55, 56, 57, 58] (by decide +kernel) (by decide +kernel)
set_option maxRecDepth 20000 in
theorem gX8_star_X8_fails : GoodIn wsX8_star (wsV RX8 153 RX8 yX8_fails wsX8_fails) := goodIn_app (goodIn_of _ (by decide +kernel)) ggX8_star_X8_fails
set_option maxRecDepth 20000 in
theorem ggX8_star_X8_in : GoodIn wsX8_star wsX8_in := goodIn_r _ [13] (by decide +kernel) (by decide +kernel)
set_option maxRecDepth 20000 in
theorem gX8_star_X8_in : GoodIn wsX8_star (va_wsS RX8 105 yX8_in wsX8_in) := goodIn_app (goodIn_of _ (by decide +kernel)) ggX8_star_X8_in
theorem dX8_star_0 : decode cX8_star 0 = .ok (.aload_n 0, 1) := by decide +kernel
theorem dX8_star_1 : decode cX8_star 1 = .ok (.iconst 0, 1) := by decide +kernel
theorem dX8_star_2 : decode cX8_star 2 = .ok (.putfield 101, 3) := by decide +kernel
theorem dX8_star_5 : decode cX8_star 5 = .ok (.aload_n 0, 1) := by decide +kernel
theorem dX8_star_6 : decode cX8_star 6 = .ok (.iload_n 1, 1) := by decide +kernel
theorem dX8_star_7 : decode cX8_star 7 = .ok (.invokevirtual 190, 3) := by decide +kernel
theorem dX8_star_10 : decode cX8_star 10 = .ok (.ifCond .eq 10, 3) := by decide +kernel
theorem dX8_star_13 : decode cX8_star 13 = .ok (.iload_n 2, 1) := by decide +kernel
theorem dX8_star_14 : decode cX8_star 14 = .ok (.invokestatic 149, 3) := by decide +kernel
theorem dX8_star_17 : decode cX8_star 17 = .ok (.ifCond .ne 9, 3) := by decide +kernel
theorem dX8_star_20 : decode cX8_star 20 = .ok (.aload_n 0, 1) := by decide +kernel
theorem dX8_star_21 : decode cX8_star 21 = .ok (.iconst 1, 1) := by decide +kernel
theorem dX8_star_22 : decode cX8_star 22 = .ok (.invokevirtual 153, 3) := by decide +kernel
theorem dX8_star_25 : decode cX8_star 25 = .ok (.ireturn, 1) := by decide +kernel
theorem dX8_star_26 : decode cX8_star 26 = .ok (.iload_n 3, 1) := by decide +kernel
theorem dX8_star_27 : decode cX8_star 27 = .ok (.iconst 1, 1) := by decide +kernel
theorem dX8_star_28 : decode cX8_star 28 = .ok (.iconst 5, 1) := by decide +kernel
theorem dX8_star_29 : decode cX8_star 29 = .ok (.invokestatic 105, 3) := by decide +kernel
theorem dX8_star_32 : decode cX8_star 32 = .ok (.ifCond .ne 9, 3) := by decide +kernel
theorem dX8_star_35 : decode cX8_star 35 = .ok (.aload_n 0, 1) := by decide +kernel
theorem dX8_star_36 : decode cX8_star 36 = .ok (.iconst 2, 1) := by decide +kernel
theorem dX8_star_37 : decode cX8_star 37 = .ok (.invokevirtual 153, 3) := by decide +kernel
theorem dX8_star_40 : decode cX8_star 40 = .ok (.ireturn, 1) := by decide +kernel
theorem dX8_star_41 : decode cX8_star 41 = .ok (.aload_n 0, 1) := by decide +kernel
theorem dX8_star_42 : decode cX8_star 42 = .ok (.getfield 55, 3) := by decide +kernel
theorem dX8_star_45 : decode cX8_star 45 = .ok (.iload_n 1, 1) := by decide +kernel
theorem dX8_star_46 : decode cX8_star 46 = .ok (.iaload, 1) := by decide +kernel
theorem dX8_star_47 : decode cX8_star 47 = .ok (.iconst (-1), 1) := by decide +kernel
theorem dX8_star_48 : decode cX8_star 48 = .ok (.if_icmp .eq 13, 3) := by decide +kernel
theorem dX8_star_51 : decode cX8_star 51 = .ok (.aload_n 0, 1) := by decide +kernel
theorem dX8_star_52 : decode cX8_star 52 = .ok (.getfield 46, 3) := by decide +kernel
theorem dX8_star_55 : decode cX8_star 55 = .ok (.iload_n 1, 1) := by decide +kernel
theorem dX8_star_56 : decode cX8_star 56 = .ok (.iaload, 1) := by decide +kernel
theorem dX8_star_57 : decode cX8_star 57 = .ok (.iload_n 2, 1) := by decide +kernel
theorem dX8_star_58 : decode cX8_star 58 = .ok (.if_icmp .ne 9, 3) := by decide +kernel
theorem dX8_star_61 : decode cX8_star 61 = .ok (.aload_n 0, 1) := by decide +kernel
theorem dX8_star_62 : decode cX8_star 62 = .ok (.iconst 3, 1) := by decide +kernel
theorem dX8_star_63 : decode cX8_star 63 = .ok (.invokevirtual 153, 3) := by decide +kernel
theorem dX8_star_66 : decode cX8_star 66 = .ok (.ireturn, 1) := by decide +kernel
theorem dX8_star_67 : decode cX8_star 67 = .ok (.aload_n 0, 1) := by decide +kernel
theorem dX8_star_68 : decode cX8_star 68 = .ok (.getfield 64, 3) := by decide +kernel
theorem dX8_star_71 : decode cX8_star 71 = .ok (.bipush 6, 2) := by decide +kernel
theorem dX8_star_73 : decode cX8_star 73 = .ok (.iload_n 1, 1) := by decide +kernel
theorem dX8_star_74 : decode cX8_star 74 = .ok (.imul, 1) := by decide +kernel
theorem dX8_star_75 : decode cX8_star 75 = .ok (.iload_n 2, 1) := by decide +kernel
theorem dX8_star_76 : decode cX8_star 76 = .ok (.iadd, 1) := by decide +kernel
theorem dX8_star_77 : decode cX8_star 77 = .ok (.iaload, 1) := by decide +kernel
theorem dX8_star_78 : decode cX8_star 78 = .ok (.istore 4, 2) := by decide +kernel
theorem dX8_star_80 : decode cX8_star 80 = .ok (.aload_n 0, 1) := by decide +kernel
theorem dX8_star_81 : decode cX8_star 81 = .ok (.getfield 64, 3) := by decide +kernel
theorem dX8_star_84 : decode cX8_star 84 = .ok (.bipush 6, 2) := by decide +kernel
theorem dX8_star_86 : decode cX8_star 86 = .ok (.iload_n 1, 1) := by decide +kernel
theorem dX8_star_87 : decode cX8_star 87 = .ok (.imul, 1) := by decide +kernel
theorem dX8_star_88 : decode cX8_star 88 = .ok (.iload_n 2, 1) := by decide +kernel
theorem dX8_star_89 : decode cX8_star 89 = .ok (.iadd, 1) := by decide +kernel
theorem dX8_star_90 : decode cX8_star 90 = .ok (.iload_n 3, 1) := by decide +kernel
theorem dX8_star_91 : decode cX8_star 91 = .ok (.iastore, 1) := by decide +kernel
theorem dX8_star_92 : decode cX8_star 92 = .ok (.iload 4, 2) := by decide +kernel
theorem dX8_star_94 : decode cX8_star 94 = .ok (.ireturn, 1) := by decide +kernel
theorem dX8_keeps_0 : decode cX8_keeps 0 = .ok (.aload_n 0, 1) := by decide +kernel
theorem dX8_keeps_1 : decode cX8_keeps 1 = .ok (.getfield 73, 3) := by decide +kernel
theorem dX8_keeps_4 : decode cX8_keeps 4 = .ok (.iload_n 1, 1) := by decide +kernel
theorem dX8_keeps_5 : decode cX8_keeps 5 = .ok (.aload_n 0, 1) := by decide +kernel
theorem dX8_keeps_6 : decode cX8_keeps 6 = .ok (.getfield 124, 3) := by decide +kernel
theorem dX8_keeps_9 : decode cX8_keeps 9 = .ok (.iastore, 1) := by decide +kernel
theorem dX8_keeps_10 : decode cX8_keeps 10 = .ok (.aload_n 0, 1) := by decide +kernel
theorem dX8_keeps_11 : decode cX8_keeps 11 = .ok (.getfield 76, 3) := by decide +kernel
theorem dX8_keeps_14 : decode cX8_keeps 14 = .ok (.iload_n 1, 1) := by decide +kernel
theorem dX8_keeps_15 : decode cX8_keeps 15 = .ok (.aload_n 0, 1) := by decide +kernel
theorem dX8_keeps_16 : decode cX8_keeps 16 = .ok (.getfield 127, 3) := by decide +kernel
theorem dX8_keeps_19 : decode cX8_keeps 19 = .ok (.iastore, 1) := by decide +kernel
theorem dX8_keeps_20 : decode cX8_keeps 20 = .ok (.aload_n 0, 1) := by decide +kernel
theorem dX8_keeps_21 : decode cX8_keeps 21 = .ok (.getfield 79, 3) := by decide +kernel
theorem dX8_keeps_24 : decode cX8_keeps 24 = .ok (.iload_n 1, 1) := by decide +kernel
theorem dX8_keeps_25 : decode cX8_keeps 25 = .ok (.aload_n 0, 1) := by decide +kernel
theorem dX8_keeps_26 : decode cX8_keeps 26 = .ok (.getfield 118, 3) := by decide +kernel
theorem dX8_keeps_29 : decode cX8_keeps 29 = .ok (.iastore, 1) := by decide +kernel
theorem dX8_keeps_30 : decode cX8_keeps 30 = .ok (.aload_n 0, 1) := by decide +kernel
theorem dX8_keeps_31 : decode cX8_keeps 31 = .ok (.getfield 67, 3) := by decide +kernel
theorem dX8_keeps_34 : decode cX8_keeps 34 = .ok (.iload_n 1, 1) := by decide +kernel
theorem dX8_keeps_35 : decode cX8_keeps 35 = .ok (.aload_n 0, 1) := by decide +kernel
theorem dX8_keeps_36 : decode cX8_keeps 36 = .ok (.getfield 121, 3) := by decide +kernel
theorem dX8_keeps_39 : decode cX8_keeps 39 = .ok (.iastore, 1) := by decide +kernel
theorem dX8_keeps_40 : decode cX8_keeps 40 = .ok (.aload_n 0, 1) := by decide +kernel
theorem dX8_keeps_41 : decode cX8_keeps 41 = .ok (.getfield 70, 3) := by decide +kernel
theorem dX8_keeps_44 : decode cX8_keeps 44 = .ok (.iload_n 1, 1) := by decide +kernel
theorem dX8_keeps_45 : decode cX8_keeps 45 = .ok (.iaload, 1) := by decide +kernel
theorem dX8_keeps_46 : decode cX8_keeps 46 = .ok (.istore_n 2, 1) := by decide +kernel
theorem dX8_keeps_47 : decode cX8_keeps 47 = .ok (.aload_n 0, 1) := by decide +kernel
theorem dX8_keeps_48 : decode cX8_keeps 48 = .ok (.getfield 121, 3) := by decide +kernel
theorem dX8_keeps_51 : decode cX8_keeps 51 = .ok (.iconst 2, 1) := by decide +kernel
theorem dX8_keeps_52 : decode cX8_keeps 52 = .ok (.if_icmp .ne 40, 3) := by decide +kernel
theorem dX8_keeps_55 : decode cX8_keeps 55 = .ok (.aload_n 0, 1) := by decide +kernel
theorem dX8_keeps_56 : decode cX8_keeps 56 = .ok (.getfield 61, 3) := by decide +kernel
theorem dX8_keeps_59 : decode cX8_keeps 59 = .ok (.iload_n 2, 1) := by decide +kernel
theorem dX8_keeps_60 : decode cX8_keeps 60 = .ok (.iaload, 1) := by decide +kernel
theorem dX8_keeps_61 : decode cX8_keeps 61 = .ok (.iconst (-1), 1) := by decide +kernel
theorem dX8_keeps_62 : decode cX8_keeps 62 = .ok (.if_icmp .eq 18, 3) := by decide +kernel
theorem dX8_keeps_65 : decode cX8_keeps 65 = .ok (.aload_n 0, 1) := by decide +kernel
theorem dX8_keeps_66 : decode cX8_keeps 66 = .ok (.getfield 82, 3) := by decide +kernel
theorem dX8_keeps_69 : decode cX8_keeps 69 = .ok (.iload_n 1, 1) := by decide +kernel
theorem dX8_keeps_70 : decode cX8_keeps 70 = .ok (.iaload, 1) := by decide +kernel
theorem dX8_keeps_71 : decode cX8_keeps 71 = .ok (.aload_n 0, 1) := by decide +kernel
theorem dX8_keeps_72 : decode cX8_keeps 72 = .ok (.getfield 61, 3) := by decide +kernel
theorem dX8_keeps_75 : decode cX8_keeps 75 = .ok (.iload_n 2, 1) := by decide +kernel
theorem dX8_keeps_76 : decode cX8_keeps 76 = .ok (.iaload, 1) := by decide +kernel
theorem dX8_keeps_77 : decode cX8_keeps 77 = .ok (.if_icmp .ge 15, 3) := by decide +kernel
theorem dX8_keeps_80 : decode cX8_keeps 80 = .ok (.aload_n 0, 1) := by decide +kernel
theorem dX8_keeps_81 : decode cX8_keeps 81 = .ok (.getfield 61, 3) := by decide +kernel
theorem dX8_keeps_84 : decode cX8_keeps 84 = .ok (.iload_n 2, 1) := by decide +kernel
theorem dX8_keeps_85 : decode cX8_keeps 85 = .ok (.aload_n 0, 1) := by decide +kernel
theorem dX8_keeps_86 : decode cX8_keeps 86 = .ok (.getfield 82, 3) := by decide +kernel
theorem dX8_keeps_89 : decode cX8_keeps 89 = .ok (.iload_n 1, 1) := by decide +kernel
theorem dX8_keeps_90 : decode cX8_keeps 90 = .ok (.iaload, 1) := by decide +kernel
theorem dX8_keeps_91 : decode cX8_keeps 91 = .ok (.iastore, 1) := by decide +kernel
theorem dX8_keeps_92 : decode cX8_keeps 92 = .ok (.aload_n 0, 1) := by decide +kernel
theorem dX8_keeps_93 : decode cX8_keeps 93 = .ok (.getfield 121, 3) := by decide +kernel
theorem dX8_keeps_96 : decode cX8_keeps 96 = .ok (.iconst 3, 1) := by decide +kernel
theorem dX8_keeps_97 : decode cX8_keeps 97 = .ok (.if_icmp .ne 7, 3) := by decide +kernel
theorem dX8_keeps_100 : decode cX8_keeps 100 = .ok (.iconst (-1), 1) := by decide +kernel
theorem dX8_keeps_101 : decode cX8_keeps 101 = .ok (.goto 20, 3) := by decide +kernel
theorem dX8_keeps_104 : decode cX8_keeps 104 = .ok (.aload_n 0, 1) := by decide +kernel
theorem dX8_keeps_105 : decode cX8_keeps 105 = .ok (.getfield 121, 3) := by decide +kernel
theorem dX8_keeps_108 : decode cX8_keeps 108 = .ok (.iconst 2, 1) := by decide +kernel
theorem dX8_keeps_109 : decode cX8_keeps 109 = .ok (.if_icmp .ne 8, 3) := by decide +kernel
theorem dX8_keeps_112 : decode cX8_keeps 112 = .ok (.bipush (-2), 2) := by decide +kernel
theorem dX8_keeps_114 : decode cX8_keeps 114 = .ok (.goto 7, 3) := by decide +kernel
theorem dX8_keeps_117 : decode cX8_keeps 117 = .ok (.aload_n 0, 1) := by decide +kernel
theorem dX8_keeps_118 : decode cX8_keeps 118 = .ok (.getfield 124, 3) := by decide +kernel
theorem dX8_keeps_121 : decode cX8_keeps 121 = .ok (.ireturn, 1) := by decide +kernel
set_option maxRecDepth 20000 in
theorem ggX8_run_X8_isPerson : GoodIn wsX8_run wsX8_isPerson := goodIn_r _ [9, 10, 11, 8, 12] (by decide +kernel) (by decide +kernel)
set_option maxRecDepth 20000 in
theorem gX8_run_X8_isPerson : GoodIn wsX8_run (va_wsS RX8 149 yX8_isPerson wsX8_isPerson) := goodIn_app (goodIn_of _ (by decide +kernel)) ggX8_run_X8_isPerson
set_option maxRecDepth 20000 in
theorem ggX8_run_X8_isWork : GoodIn wsX8_run wsX8_isWork := goodIn_r _ [16, 17, 10, 11, 8, 12, 52, 53, 54, 55, 56, 57, 58, 59, 60, 61, 62, 63, 64, 65, 66, 67, 68, 69, 70, 71, 72, 73, 74, 75, 76, 77, 78, 79, 80, 81, 82, 83, 84, 85, 86, 87, 88, 89] (by decide +kernel) (by decide +kernel)
set_option maxRecDepth 20000 in
theorem gX8_run_X8_isWork : GoodIn wsX8_run (wsV RX8 190 RX8 yX8_isWork wsX8_isWork) := goodIn_app (goodIn_of _ (by decide +kernel)) ggX8_run_X8_isWork
set_option maxRecDepth 20000 in
theorem ggX8_run_X8_fails : GoodIn wsX8_run wsX8_fails := goodIn_r _ [21, 1, 52, 53, 54, 55, 56, 57, 58, 59, 60, 61, 62, 63, 64, 65, 66, 67, 68, 69, 70, 71, 72, 73, 74, 75, 76, 77, 78, 79, 80, 81, 82, 83, 84, 85, 86, 87, 88, 89] (by decide +kernel) (by decide +kernel)
set_option maxRecDepth 20000 in
theorem gX8_run_X8_fails : GoodIn wsX8_run (wsV RX8 153 RX8 yX8_fails wsX8_fails) := goodIn_app (goodIn_of _ (by decide +kernel)) ggX8_run_X8_fails
set_option maxRecDepth 20000 in
theorem ggX8_run_X8_lays : GoodIn wsX8_run wsX8_lays := goodIn_r _ [25, 26, 27, 28, 29, 30, 52, 53, 54, 55, 56, 57, 58, 59, 60, 61, 62, 63, 64, 65, 66, 67, 68, 69, 70, 71, 72, 73, 74, 75, 76, 77, 78, 79, 80, 81, 82, 83, 84, 85, 86, 87, 88, 89] (by decide +kernel) (by decide +kernel)
set_option maxRecDepth 20000 in
theorem gX8_run_X8_lays : GoodIn wsX8_run (wsV RX8 174 RX8 yX8_lays wsX8_lays) := goodIn_app (goodIn_of _ (by decide +kernel)) ggX8_run_X8_lays
set_option maxRecDepth 20000 in
theorem ggX8_run_X8_starts : GoodIn wsX8_run wsX8_starts := goodIn_r _ [34, 35, 36, 37, 38, 39, 8, 40, 41, 42, 30, 27, 52, 53, 54, 55, 56, 57, 58, 59, 60, 61, 62, 63, 64, 65, 66, 67, 68, 69, 70, 71, 72, 73, 74, 75, 76, 77, 78, 79, 80, 81, 82, 83, 84, 85, 86, 87, 88, 89] (by decide +kernel) (by decide +kernel)
set_option maxRecDepth 20000 in
theorem gX8_run_X8_starts : GoodIn wsX8_run (wsV RX8 138 RX8 yX8_starts wsX8_starts) := goodIn_app (goodIn_of _ (by decide +kernel)) ggX8_run_X8_starts
set_option maxRecDepth 20000 in
theorem ggX8_run_X8_keeps : GoodIn wsX8_run wsX8_keeps := goodIn_r _ [46, 47, 42, 48, 35, 49, 36, 50, 41, 3, 51, 4, 52, 53, 54, 55, 56, 57, 58, 59, 60, 61, 62, 63, 64, 65, 66, 67, 68, 69, 70, 71, 72, 73, 74, 75, 76, 77, 78, 79, 80, 81, 82, 83, 84, 85, 86, 87, 88, 89] (by decide +kernel) (by decide +kernel)
set_option maxRecDepth 20000 in
theorem gX8_run_X8_keeps : GoodIn wsX8_run (wsV RX8 193 RX8 yX8_keeps wsX8_keeps) := goodIn_app (goodIn_of _ (by decide +kernel)) ggX8_run_X8_keeps
theorem dX8_run_0 : decode cX8_run 0 = .ok (.aload_n 0, 1) := by decide +kernel
theorem dX8_run_1 : decode cX8_run 1 = .ok (.iconst 0, 1) := by decide +kernel
theorem dX8_run_2 : decode cX8_run 2 = .ok (.putfield 101, 3) := by decide +kernel
theorem dX8_run_5 : decode cX8_run 5 = .ok (.iload_n 1, 1) := by decide +kernel
theorem dX8_run_6 : decode cX8_run 6 = .ok (.invokestatic 149, 3) := by decide +kernel
theorem dX8_run_9 : decode cX8_run 9 = .ok (.ifCond .eq 11, 3) := by decide +kernel
theorem dX8_run_12 : decode cX8_run 12 = .ok (.aload_n 0, 1) := by decide +kernel
theorem dX8_run_13 : decode cX8_run 13 = .ok (.iload_n 2, 1) := by decide +kernel
theorem dX8_run_14 : decode cX8_run 14 = .ok (.invokevirtual 190, 3) := by decide +kernel
theorem dX8_run_17 : decode cX8_run 17 = .ok (.ifCond .ne 9, 3) := by decide +kernel
theorem dX8_run_20 : decode cX8_run 20 = .ok (.aload_n 0, 1) := by decide +kernel
theorem dX8_run_21 : decode cX8_run 21 = .ok (.iconst 1, 1) := by decide +kernel
theorem dX8_run_22 : decode cX8_run 22 = .ok (.invokevirtual 153, 3) := by decide +kernel
theorem dX8_run_25 : decode cX8_run 25 = .ok (.ireturn, 1) := by decide +kernel
theorem dX8_run_26 : decode cX8_run 26 = .ok (.aload_n 0, 1) := by decide +kernel
theorem dX8_run_27 : decode cX8_run 27 = .ok (.getfield 55, 3) := by decide +kernel
theorem dX8_run_30 : decode cX8_run 30 = .ok (.iload_n 2, 1) := by decide +kernel
theorem dX8_run_31 : decode cX8_run 31 = .ok (.iaload, 1) := by decide +kernel
theorem dX8_run_32 : decode cX8_run 32 = .ok (.iconst (-1), 1) := by decide +kernel
theorem dX8_run_33 : decode cX8_run 33 = .ok (.if_icmp .ne 9, 3) := by decide +kernel
theorem dX8_run_36 : decode cX8_run 36 = .ok (.aload_n 0, 1) := by decide +kernel
theorem dX8_run_37 : decode cX8_run 37 = .ok (.iconst 2, 1) := by decide +kernel
theorem dX8_run_38 : decode cX8_run 38 = .ok (.invokevirtual 153, 3) := by decide +kernel
theorem dX8_run_41 : decode cX8_run 41 = .ok (.ireturn, 1) := by decide +kernel
theorem dX8_run_42 : decode cX8_run 42 = .ok (.aload_n 0, 1) := by decide +kernel
theorem dX8_run_43 : decode cX8_run 43 = .ok (.getfield 70, 3) := by decide +kernel
theorem dX8_run_46 : decode cX8_run 46 = .ok (.iload_n 1, 1) := by decide +kernel
theorem dX8_run_47 : decode cX8_run 47 = .ok (.iload_n 2, 1) := by decide +kernel
theorem dX8_run_48 : decode cX8_run 48 = .ok (.iastore, 1) := by decide +kernel
theorem dX8_run_49 : decode cX8_run 49 = .ok (.aload_n 0, 1) := by decide +kernel
theorem dX8_run_50 : decode cX8_run 50 = .ok (.getfield 82, 3) := by decide +kernel
theorem dX8_run_53 : decode cX8_run 53 = .ok (.iload_n 1, 1) := by decide +kernel
theorem dX8_run_54 : decode cX8_run 54 = .ok (.iconst 0, 1) := by decide +kernel
theorem dX8_run_55 : decode cX8_run 55 = .ok (.iastore, 1) := by decide +kernel
theorem dX8_run_56 : decode cX8_run 56 = .ok (.aload_n 0, 1) := by decide +kernel
theorem dX8_run_57 : decode cX8_run 57 = .ok (.iconst 1, 1) := by decide +kernel
theorem dX8_run_58 : decode cX8_run 58 = .ok (.iload_n 2, 1) := by decide +kernel
theorem dX8_run_59 : decode cX8_run 59 = .ok (.invokevirtual 174, 3) := by decide +kernel
theorem dX8_run_62 : decode cX8_run 62 = .ok (.aload_n 0, 1) := by decide +kernel
theorem dX8_run_63 : decode cX8_run 63 = .ok (.aload_n 0, 1) := by decide +kernel
theorem dX8_run_64 : decode cX8_run 64 = .ok (.getfield 52, 3) := by decide +kernel
theorem dX8_run_67 : decode cX8_run 67 = .ok (.iload_n 2, 1) := by decide +kernel
theorem dX8_run_68 : decode cX8_run 68 = .ok (.iaload, 1) := by decide +kernel
theorem dX8_run_69 : decode cX8_run 69 = .ok (.invokevirtual 138, 3) := by decide +kernel
theorem dX8_run_72 : decode cX8_run 72 = .ok (.aload_n 0, 1) := by decide +kernel
theorem dX8_run_73 : decode cX8_run 73 = .ok (.iload_n 1, 1) := by decide +kernel
theorem dX8_run_74 : decode cX8_run 74 = .ok (.invokevirtual 193, 3) := by decide +kernel
theorem dX8_run_77 : decode cX8_run 77 = .ok (.ireturn, 1) := by decide +kernel
set_option maxRecDepth 20000 in
theorem ggX8_step_X8_isPerson : GoodIn wsX8_step wsX8_isPerson := goodIn_r _ [15, 16, 17, 14, 18] (by decide +kernel) (by decide +kernel)
set_option maxRecDepth 20000 in
theorem gX8_step_X8_isPerson : GoodIn wsX8_step (va_wsS RX8 149 yX8_isPerson wsX8_isPerson) := goodIn_app (goodIn_of _ (by decide +kernel)) ggX8_step_X8_isPerson
set_option maxRecDepth 20000 in
theorem ggX8_step_X8_fails : GoodIn wsX8_step wsX8_fails := goodIn_r _ [22, 1, 50, 51, 52, 53, 54, 55, 56, 57, 58, 59, 60, 61, 62, 63, 64, 65, 66, 67, 68, 69, 70, 71, 72, 73, 74, 75, 76, 77, 78, 79, 80, 81, 82, 83, 84, 85, 86, 87] (by decide +kernel) (by decide +kernel)
set_option maxRecDepth 20000 in
theorem gX8_step_X8_fails : GoodIn wsX8_step (wsV RX8 153 RX8 yX8_fails wsX8_fails) := goodIn_app (goodIn_of _ (by decide +kernel)) ggX8_step_X8_fails
set_option maxRecDepth 20000 in
theorem ggX8_step_X8_in : GoodIn wsX8_step wsX8_in := goodIn_r _ [18] (by decide +kernel) (by decide +kernel)
set_option maxRecDepth 20000 in
theorem gX8_step_X8_in : GoodIn wsX8_step (va_wsS RX8 105 yX8_in wsX8_in) := goodIn_app (goodIn_of _ (by decide +kernel)) ggX8_step_X8_in
set_option maxRecDepth 20000 in
theorem ggX8_step_X8_lays : GoodIn wsX8_step wsX8_lays := goodIn_r _ [26, 27, 28, 29, 30, 31, 50, 51, 52, 53, 54, 55, 56, 57, 58, 59, 60, 61, 62, 63, 64, 65, 66, 67, 68, 69, 70, 71, 72, 73, 74, 75, 76, 77, 78, 79, 80, 81, 82, 83, 84, 85, 86, 87] (by decide +kernel) (by decide +kernel)
set_option maxRecDepth 20000 in
theorem gX8_step_X8_lays : GoodIn wsX8_step (wsV RX8 174 RX8 yX8_lays wsX8_lays) := goodIn_app (goodIn_of _ (by decide +kernel)) ggX8_step_X8_lays
set_option maxRecDepth 20000 in
theorem ggX8_step_X8_moves : GoodIn wsX8_step wsX8_moves := goodIn_r _ [35, 6, 8, 11, 28, 36, 37, 38, 39, 14, 40, 10, 27, 16, 17, 18, 41, 42, 43, 44, 31, 50, 51, 52, 53, 54, 55, 56, 57, 58, 59, 60, 61, 62, 63, 64, 65, 66, 67, 68, 69, 70, 71, 72, 73, 74, 75, 76, 77, 78, 79, 80, 81, 82, 83, 84, 85, 86, 87] (by decide +kernel) (by decide +kernel)
set_option maxRecDepth 20000 in
theorem gX8_step_X8_moves : GoodIn wsX8_step (wsV RX8 146 RX8 yX8_moves wsX8_moves) := goodIn_app (goodIn_of _ (by decide +kernel)) ggX8_step_X8_moves
set_option maxRecDepth 20000 in
theorem ggX8_step_X8_keeps : GoodIn wsX8_step wsX8_keeps := goodIn_r _ [48, 5, 6, 7, 8, 9, 10, 2, 11, 4, 49, 3, 50, 51, 52, 53, 54, 55, 56, 57, 58, 59, 60, 61, 62, 63, 64, 65, 66, 67, 68, 69, 70, 71, 72, 73, 74, 75, 76, 77, 78, 79, 80, 81, 82, 83, 84, 85, 86, 87] (by decide +kernel) (by decide +kernel)
set_option maxRecDepth 20000 in
theorem gX8_step_X8_keeps : GoodIn wsX8_step (wsV RX8 193 RX8 yX8_keeps wsX8_keeps) := goodIn_app (goodIn_of _ (by decide +kernel)) ggX8_step_X8_keeps
theorem dX8_step_0 : decode cX8_step 0 = .ok (.aload_n 0, 1) := by decide +kernel
theorem dX8_step_1 : decode cX8_step 1 = .ok (.iconst 0, 1) := by decide +kernel
theorem dX8_step_2 : decode cX8_step 2 = .ok (.putfield 101, 3) := by decide +kernel
theorem dX8_step_5 : decode cX8_step 5 = .ok (.iload_n 1, 1) := by decide +kernel
theorem dX8_step_6 : decode cX8_step 6 = .ok (.invokestatic 149, 3) := by decide +kernel
theorem dX8_step_9 : decode cX8_step 9 = .ok (.ifCond .ne 9, 3) := by decide +kernel
theorem dX8_step_12 : decode cX8_step 12 = .ok (.aload_n 0, 1) := by decide +kernel
theorem dX8_step_13 : decode cX8_step 13 = .ok (.iconst 1, 1) := by decide +kernel
theorem dX8_step_14 : decode cX8_step 14 = .ok (.invokevirtual 153, 3) := by decide +kernel
theorem dX8_step_17 : decode cX8_step 17 = .ok (.ireturn, 1) := by decide +kernel
theorem dX8_step_18 : decode cX8_step 18 = .ok (.iload_n 2, 1) := by decide +kernel
theorem dX8_step_19 : decode cX8_step 19 = .ok (.iconst 0, 1) := by decide +kernel
theorem dX8_step_20 : decode cX8_step 20 = .ok (.iconst 5, 1) := by decide +kernel
theorem dX8_step_21 : decode cX8_step 21 = .ok (.invokestatic 105, 3) := by decide +kernel
theorem dX8_step_24 : decode cX8_step 24 = .ok (.ifCond .ne 9, 3) := by decide +kernel
theorem dX8_step_27 : decode cX8_step 27 = .ok (.aload_n 0, 1) := by decide +kernel
theorem dX8_step_28 : decode cX8_step 28 = .ok (.iconst 2, 1) := by decide +kernel
theorem dX8_step_29 : decode cX8_step 29 = .ok (.invokevirtual 153, 3) := by decide +kernel
theorem dX8_step_32 : decode cX8_step 32 = .ok (.ireturn, 1) := by decide +kernel
theorem dX8_step_33 : decode cX8_step 33 = .ok (.aload_n 0, 1) := by decide +kernel
theorem dX8_step_34 : decode cX8_step 34 = .ok (.getfield 67, 3) := by decide +kernel
theorem dX8_step_37 : decode cX8_step 37 = .ok (.iload_n 1, 1) := by decide +kernel
theorem dX8_step_38 : decode cX8_step 38 = .ok (.iaload, 1) := by decide +kernel
theorem dX8_step_39 : decode cX8_step 39 = .ok (.iconst 1, 1) := by decide +kernel
theorem dX8_step_40 : decode cX8_step 40 = .ok (.if_icmp .ne 15, 3) := by decide +kernel
theorem dX8_step_43 : decode cX8_step 43 = .ok (.aload_n 0, 1) := by decide +kernel
theorem dX8_step_44 : decode cX8_step 44 = .ok (.getfield 82, 3) := by decide +kernel
theorem dX8_step_47 : decode cX8_step 47 = .ok (.iload_n 1, 1) := by decide +kernel
theorem dX8_step_48 : decode cX8_step 48 = .ok (.iaload, 1) := by decide +kernel
theorem dX8_step_49 : decode cX8_step 49 = .ok (.sipush 200, 3) := by decide +kernel
theorem dX8_step_52 : decode cX8_step 52 = .ok (.if_icmp .ne 9, 3) := by decide +kernel
theorem dX8_step_55 : decode cX8_step 55 = .ok (.aload_n 0, 1) := by decide +kernel
theorem dX8_step_56 : decode cX8_step 56 = .ok (.iconst 3, 1) := by decide +kernel
theorem dX8_step_57 : decode cX8_step 57 = .ok (.invokevirtual 153, 3) := by decide +kernel
theorem dX8_step_60 : decode cX8_step 60 = .ok (.ireturn, 1) := by decide +kernel
theorem dX8_step_61 : decode cX8_step 61 = .ok (.aload_n 0, 1) := by decide +kernel
theorem dX8_step_62 : decode cX8_step 62 = .ok (.iconst 1, 1) := by decide +kernel
theorem dX8_step_63 : decode cX8_step 63 = .ok (.aload_n 0, 1) := by decide +kernel
theorem dX8_step_64 : decode cX8_step 64 = .ok (.getfield 70, 3) := by decide +kernel
theorem dX8_step_67 : decode cX8_step 67 = .ok (.iload_n 1, 1) := by decide +kernel
theorem dX8_step_68 : decode cX8_step 68 = .ok (.iaload, 1) := by decide +kernel
theorem dX8_step_69 : decode cX8_step 69 = .ok (.invokevirtual 174, 3) := by decide +kernel
theorem dX8_step_72 : decode cX8_step 72 = .ok (.aload_n 0, 1) := by decide +kernel
theorem dX8_step_73 : decode cX8_step 73 = .ok (.aload_n 0, 1) := by decide +kernel
theorem dX8_step_74 : decode cX8_step 74 = .ok (.getfield 73, 3) := by decide +kernel
theorem dX8_step_77 : decode cX8_step 77 = .ok (.iload_n 1, 1) := by decide +kernel
theorem dX8_step_78 : decode cX8_step 78 = .ok (.iaload, 1) := by decide +kernel
theorem dX8_step_79 : decode cX8_step 79 = .ok (.putfield 124, 3) := by decide +kernel
theorem dX8_step_82 : decode cX8_step 82 = .ok (.aload_n 0, 1) := by decide +kernel
theorem dX8_step_83 : decode cX8_step 83 = .ok (.aload_n 0, 1) := by decide +kernel
theorem dX8_step_84 : decode cX8_step 84 = .ok (.getfield 76, 3) := by decide +kernel
theorem dX8_step_87 : decode cX8_step 87 = .ok (.iload_n 1, 1) := by decide +kernel
theorem dX8_step_88 : decode cX8_step 88 = .ok (.iaload, 1) := by decide +kernel
theorem dX8_step_89 : decode cX8_step 89 = .ok (.putfield 127, 3) := by decide +kernel
theorem dX8_step_92 : decode cX8_step 92 = .ok (.aload_n 0, 1) := by decide +kernel
theorem dX8_step_93 : decode cX8_step 93 = .ok (.aload_n 0, 1) := by decide +kernel
theorem dX8_step_94 : decode cX8_step 94 = .ok (.getfield 79, 3) := by decide +kernel
theorem dX8_step_97 : decode cX8_step 97 = .ok (.iload_n 1, 1) := by decide +kernel
theorem dX8_step_98 : decode cX8_step 98 = .ok (.iaload, 1) := by decide +kernel
theorem dX8_step_99 : decode cX8_step 99 = .ok (.putfield 118, 3) := by decide +kernel
theorem dX8_step_102 : decode cX8_step 102 = .ok (.aload_n 0, 1) := by decide +kernel
theorem dX8_step_103 : decode cX8_step 103 = .ok (.iconst 1, 1) := by decide +kernel
theorem dX8_step_104 : decode cX8_step 104 = .ok (.putfield 121, 3) := by decide +kernel
theorem dX8_step_107 : decode cX8_step 107 = .ok (.aload_n 0, 1) := by decide +kernel
theorem dX8_step_108 : decode cX8_step 108 = .ok (.iload_n 2, 1) := by decide +kernel
theorem dX8_step_109 : decode cX8_step 109 = .ok (.invokevirtual 146, 3) := by decide +kernel
theorem dX8_step_112 : decode cX8_step 112 = .ok (.aload_n 0, 1) := by decide +kernel
theorem dX8_step_113 : decode cX8_step 113 = .ok (.getfield 82, 3) := by decide +kernel
theorem dX8_step_116 : decode cX8_step 116 = .ok (.iload_n 1, 1) := by decide +kernel
theorem dX8_step_117 : decode cX8_step 117 = .ok (.dup2, 1) := by decide +kernel
theorem dX8_step_118 : decode cX8_step 118 = .ok (.iaload, 1) := by decide +kernel
theorem dX8_step_119 : decode cX8_step 119 = .ok (.iconst 1, 1) := by decide +kernel
theorem dX8_step_120 : decode cX8_step 120 = .ok (.iadd, 1) := by decide +kernel
theorem dX8_step_121 : decode cX8_step 121 = .ok (.iastore, 1) := by decide +kernel
theorem dX8_step_122 : decode cX8_step 122 = .ok (.aload_n 0, 1) := by decide +kernel
theorem dX8_step_123 : decode cX8_step 123 = .ok (.iload_n 1, 1) := by decide +kernel
theorem dX8_step_124 : decode cX8_step 124 = .ok (.invokevirtual 193, 3) := by decide +kernel
theorem dX8_step_127 : decode cX8_step 127 = .ok (.ireturn, 1) := by decide +kernel
theorem dX8_levels_0 : decode cX8_levels 0 = .ok (.aload_n 0, 1) := by decide +kernel
theorem dX8_levels_1 : decode cX8_levels 1 = .ok (.iconst 0, 1) := by decide +kernel
theorem dX8_levels_2 : decode cX8_levels 2 = .ok (.putfield 101, 3) := by decide +kernel
theorem dX8_levels_5 : decode cX8_levels 5 = .ok (.aload_n 0, 1) := by decide +kernel
theorem dX8_levels_6 : decode cX8_levels 6 = .ok (.getfield 109, 3) := by decide +kernel
theorem dX8_levels_9 : decode cX8_levels 9 = .ok (.ireturn, 1) := by decide +kernel
set_option maxRecDepth 20000 in
theorem ggX8_at_X8_isLevel : GoodIn wsX8_at wsX8_isLevel := goodIn_r _ [7, 8, 9, 10, 6, 11, 19, 20, 21, 22, 23, 24, 25, 26, 27, 28, 29, 30, 31, 32, 33, 34, 35, 36, 37, 38, 39, 40, 41, 42, 43, 44, 45, 46, 47, 48, 49, 50, 51, 52, 53, 54, 55, 56] (by decide +kernel) (by decide +kernel)
set_option maxRecDepth 20000 in
theorem gX8_at_X8_isLevel : GoodIn wsX8_at (wsV RX8 161 RX8 yX8_isLevel wsX8_isLevel) := goodIn_app (goodIn_of _ (by decide +kernel)) ggX8_at_X8_isLevel
set_option maxRecDepth 20000 in
theorem ggX8_at_X8_isCell : GoodIn wsX8_at wsX8_isCell := goodIn_r _ [14, 9, 10, 6, 11] (by decide +kernel) (by decide +kernel)
set_option maxRecDepth 20000 in
theorem gX8_at_X8_isCell : GoodIn wsX8_at (va_wsS RX8 164 yX8_isCell wsX8_isCell) := goodIn_app (goodIn_of _ (by decide +kernel)) ggX8_at_X8_isCell
set_option maxRecDepth 20000 in
theorem ggX8_at_X8_fails : GoodIn wsX8_at wsX8_fails := goodIn_r _ [18, 1, 19, 20, 21, 22, 23, 24, 25, 26, 27, 28, 29, 30, 31, 32, 33, 34, 35, 36, 37, 38, 39, 40, 41, 42, 43, 44, 45, 46, 47, 48, 49, 50, 51, 52, 53, 54, 55, 56] (by decide +kernel) (by decide +kernel)
set_option maxRecDepth 20000 in
theorem gX8_at_X8_fails : GoodIn wsX8_at (wsV RX8 153 RX8 yX8_fails wsX8_fails) := goodIn_app (goodIn_of _ (by decide +kernel)) ggX8_at_X8_fails
theorem dX8_at_0 : decode cX8_at 0 = .ok (.aload_n 0, 1) := by decide +kernel
theorem dX8_at_1 : decode cX8_at 1 = .ok (.iconst 0, 1) := by decide +kernel
theorem dX8_at_2 : decode cX8_at 2 = .ok (.putfield 101, 3) := by decide +kernel
theorem dX8_at_5 : decode cX8_at 5 = .ok (.aload_n 0, 1) := by decide +kernel
theorem dX8_at_6 : decode cX8_at 6 = .ok (.iload_n 1, 1) := by decide +kernel
theorem dX8_at_7 : decode cX8_at 7 = .ok (.invokevirtual 161, 3) := by decide +kernel
theorem dX8_at_10 : decode cX8_at 10 = .ok (.ifCond .eq 24, 3) := by decide +kernel
theorem dX8_at_13 : decode cX8_at 13 = .ok (.iload_n 2, 1) := by decide +kernel
theorem dX8_at_14 : decode cX8_at 14 = .ok (.invokestatic 164, 3) := by decide +kernel
theorem dX8_at_17 : decode cX8_at 17 = .ok (.ifCond .eq 17, 3) := by decide +kernel
theorem dX8_at_20 : decode cX8_at 20 = .ok (.aload_n 0, 1) := by decide +kernel
theorem dX8_at_21 : decode cX8_at 21 = .ok (.getfield 16, 3) := by decide +kernel
theorem dX8_at_24 : decode cX8_at 24 = .ok (.bipush 96, 2) := by decide +kernel
theorem dX8_at_26 : decode cX8_at 26 = .ok (.iload_n 1, 1) := by decide +kernel
theorem dX8_at_27 : decode cX8_at 27 = .ok (.imul, 1) := by decide +kernel
theorem dX8_at_28 : decode cX8_at 28 = .ok (.iload_n 2, 1) := by decide +kernel
theorem dX8_at_29 : decode cX8_at 29 = .ok (.iadd, 1) := by decide +kernel
theorem dX8_at_30 : decode cX8_at 30 = .ok (.iaload, 1) := by decide +kernel
theorem dX8_at_31 : decode cX8_at 31 = .ok (.goto 8, 3) := by decide +kernel
theorem dX8_at_34 : decode cX8_at 34 = .ok (.aload_n 0, 1) := by decide +kernel
theorem dX8_at_35 : decode cX8_at 35 = .ok (.iconst 1, 1) := by decide +kernel
theorem dX8_at_36 : decode cX8_at 36 = .ok (.invokevirtual 153, 3) := by decide +kernel
theorem dX8_at_39 : decode cX8_at 39 = .ok (.ireturn, 1) := by decide +kernel
set_option maxRecDepth 20000 in
theorem ggX8_start_X8_isLevel : GoodIn wsX8_start wsX8_isLevel := goodIn_r _ [7, 8, 9, 10, 6, 11, 16, 17, 18, 19, 20, 21, 22, 23, 24, 25, 26, 27, 28, 29, 30, 31, 32, 33, 34, 35, 36, 37, 38, 39, 40, 41, 42, 43, 44, 45, 46, 47, 48, 49, 50, 51, 52, 53] (by decide +kernel) (by decide +kernel)
set_option maxRecDepth 20000 in
theorem gX8_start_X8_isLevel : GoodIn wsX8_start (wsV RX8 161 RX8 yX8_isLevel wsX8_isLevel) := goodIn_app (goodIn_of _ (by decide +kernel)) ggX8_start_X8_isLevel
set_option maxRecDepth 20000 in
theorem ggX8_start_X8_fails : GoodIn wsX8_start wsX8_fails := goodIn_r _ [15, 1, 16, 17, 18, 19, 20, 21, 22, 23, 24, 25, 26, 27, 28, 29, 30, 31, 32, 33, 34, 35, 36, 37, 38, 39, 40, 41, 42, 43, 44, 45, 46, 47, 48, 49, 50, 51, 52, 53] (by decide +kernel) (by decide +kernel)
set_option maxRecDepth 20000 in
theorem gX8_start_X8_fails : GoodIn wsX8_start (wsV RX8 153 RX8 yX8_fails wsX8_fails) := goodIn_app (goodIn_of _ (by decide +kernel)) ggX8_start_X8_fails
theorem dX8_start_0 : decode cX8_start 0 = .ok (.aload_n 0, 1) := by decide +kernel
theorem dX8_start_1 : decode cX8_start 1 = .ok (.iconst 0, 1) := by decide +kernel
theorem dX8_start_2 : decode cX8_start 2 = .ok (.putfield 101, 3) := by decide +kernel
theorem dX8_start_5 : decode cX8_start 5 = .ok (.aload_n 0, 1) := by decide +kernel
theorem dX8_start_6 : decode cX8_start 6 = .ok (.iload_n 1, 1) := by decide +kernel
theorem dX8_start_7 : decode cX8_start 7 = .ok (.invokevirtual 161, 3) := by decide +kernel
theorem dX8_start_10 : decode cX8_start 10 = .ok (.ifCond .eq 12, 3) := by decide +kernel
theorem dX8_start_13 : decode cX8_start 13 = .ok (.aload_n 0, 1) := by decide +kernel
theorem dX8_start_14 : decode cX8_start 14 = .ok (.getfield 19, 3) := by decide +kernel
theorem dX8_start_17 : decode cX8_start 17 = .ok (.iload_n 1, 1) := by decide +kernel
theorem dX8_start_18 : decode cX8_start 18 = .ok (.iaload, 1) := by decide +kernel
theorem dX8_start_19 : decode cX8_start 19 = .ok (.goto 8, 3) := by decide +kernel
theorem dX8_start_22 : decode cX8_start 22 = .ok (.aload_n 0, 1) := by decide +kernel
theorem dX8_start_23 : decode cX8_start 23 = .ok (.iconst 1, 1) := by decide +kernel
theorem dX8_start_24 : decode cX8_start 24 = .ok (.invokevirtual 153, 3) := by decide +kernel
theorem dX8_start_27 : decode cX8_start 27 = .ok (.ireturn, 1) := by decide +kernel
set_option maxRecDepth 20000 in
theorem ggX8_edits_X8_isLevel : GoodIn wsX8_edits wsX8_isLevel := goodIn_r _ [8, 9, 10, 11, 7, 12, 17, 18, 19, 20, 21, 22, 23, 24, 25, 26, 27, 28, 29, 30, 31, 32, 33, 34, 35, 36, 37, 38, 39, 40, 41, 42, 43, 44, 45, 46, 47, 48, 49, 50, 51, 52, 53, 54] (by decide +kernel) (by decide +kernel)
set_option maxRecDepth 20000 in
theorem gX8_edits_X8_isLevel : GoodIn wsX8_edits (wsV RX8 161 RX8 yX8_isLevel wsX8_isLevel) := goodIn_app (goodIn_of _ (by decide +kernel)) ggX8_edits_X8_isLevel
set_option maxRecDepth 20000 in
theorem ggX8_edits_X8_fails : GoodIn wsX8_edits wsX8_fails := goodIn_r _ [16, 1, 17, 18, 19, 20, 21, 22, 23, 24, 25, 26, 27, 28, 29, 30, 31, 32, 33, 34, 35, 36, 37, 38, 39, 40, 41, 42, 43, 44, 45, 46, 47, 48, 49, 50, 51, 52, 53, 54] (by decide +kernel) (by decide +kernel)
set_option maxRecDepth 20000 in
theorem gX8_edits_X8_fails : GoodIn wsX8_edits (wsV RX8 153 RX8 yX8_fails wsX8_fails) := goodIn_app (goodIn_of _ (by decide +kernel)) ggX8_edits_X8_fails
theorem dX8_edits_0 : decode cX8_edits 0 = .ok (.aload_n 0, 1) := by decide +kernel
theorem dX8_edits_1 : decode cX8_edits 1 = .ok (.iconst 0, 1) := by decide +kernel
theorem dX8_edits_2 : decode cX8_edits 2 = .ok (.putfield 101, 3) := by decide +kernel
theorem dX8_edits_5 : decode cX8_edits 5 = .ok (.aload_n 0, 1) := by decide +kernel
theorem dX8_edits_6 : decode cX8_edits 6 = .ok (.iload_n 1, 1) := by decide +kernel
theorem dX8_edits_7 : decode cX8_edits 7 = .ok (.invokevirtual 161, 3) := by decide +kernel
theorem dX8_edits_10 : decode cX8_edits 10 = .ok (.ifCond .ne 9, 3) := by decide +kernel
theorem dX8_edits_13 : decode cX8_edits 13 = .ok (.aload_n 0, 1) := by decide +kernel
theorem dX8_edits_14 : decode cX8_edits 14 = .ok (.iconst 1, 1) := by decide +kernel
theorem dX8_edits_15 : decode cX8_edits 15 = .ok (.invokevirtual 153, 3) := by decide +kernel
theorem dX8_edits_18 : decode cX8_edits 18 = .ok (.ireturn, 1) := by decide +kernel
theorem dX8_edits_19 : decode cX8_edits 19 = .ok (.iload_n 2, 1) := by decide +kernel
theorem dX8_edits_20 : decode cX8_edits 20 = .ok (.ifCond .eq 12, 3) := by decide +kernel
theorem dX8_edits_23 : decode cX8_edits 23 = .ok (.aload_n 0, 1) := by decide +kernel
theorem dX8_edits_24 : decode cX8_edits 24 = .ok (.getfield 28, 3) := by decide +kernel
theorem dX8_edits_27 : decode cX8_edits 27 = .ok (.iload_n 1, 1) := by decide +kernel
theorem dX8_edits_28 : decode cX8_edits 28 = .ok (.iaload, 1) := by decide +kernel
theorem dX8_edits_29 : decode cX8_edits 29 = .ok (.goto 9, 3) := by decide +kernel
theorem dX8_edits_32 : decode cX8_edits 32 = .ok (.aload_n 0, 1) := by decide +kernel
theorem dX8_edits_33 : decode cX8_edits 33 = .ok (.getfield 37, 3) := by decide +kernel
theorem dX8_edits_36 : decode cX8_edits 36 = .ok (.iload_n 1, 1) := by decide +kernel
theorem dX8_edits_37 : decode cX8_edits 37 = .ok (.iaload, 1) := by decide +kernel
theorem dX8_edits_38 : decode cX8_edits 38 = .ok (.ireturn, 1) := by decide +kernel
set_option maxRecDepth 20000 in
theorem ggX8_proof_X8_isLevel : GoodIn wsX8_proof wsX8_isLevel := goodIn_r _ [7, 8, 9, 10, 6, 11, 16, 17, 18, 19, 20, 21, 22, 23, 24, 25, 26, 27, 28, 29, 30, 31, 32, 33, 34, 35, 36, 37, 38, 39, 40, 41, 42, 43, 44, 45, 46, 47, 48, 49, 50, 51, 52, 53] (by decide +kernel) (by decide +kernel)
set_option maxRecDepth 20000 in
theorem gX8_proof_X8_isLevel : GoodIn wsX8_proof (wsV RX8 161 RX8 yX8_isLevel wsX8_isLevel) := goodIn_app (goodIn_of _ (by decide +kernel)) ggX8_proof_X8_isLevel
set_option maxRecDepth 20000 in
theorem ggX8_proof_X8_fails : GoodIn wsX8_proof wsX8_fails := goodIn_r _ [15, 1, 16, 17, 18, 19, 20, 21, 22, 23, 24, 25, 26, 27, 28, 29, 30, 31, 32, 33, 34, 35, 36, 37, 38, 39, 40, 41, 42, 43, 44, 45, 46, 47, 48, 49, 50, 51, 52, 53] (by decide +kernel) (by decide +kernel)
set_option maxRecDepth 20000 in
theorem gX8_proof_X8_fails : GoodIn wsX8_proof (wsV RX8 153 RX8 yX8_fails wsX8_fails) := goodIn_app (goodIn_of _ (by decide +kernel)) ggX8_proof_X8_fails
theorem dX8_proof_0 : decode cX8_proof 0 = .ok (.aload_n 0, 1) := by decide +kernel
theorem dX8_proof_1 : decode cX8_proof 1 = .ok (.iconst 0, 1) := by decide +kernel
theorem dX8_proof_2 : decode cX8_proof 2 = .ok (.putfield 101, 3) := by decide +kernel
theorem dX8_proof_5 : decode cX8_proof 5 = .ok (.aload_n 0, 1) := by decide +kernel
theorem dX8_proof_6 : decode cX8_proof 6 = .ok (.iload_n 1, 1) := by decide +kernel
theorem dX8_proof_7 : decode cX8_proof 7 = .ok (.invokevirtual 161, 3) := by decide +kernel
theorem dX8_proof_10 : decode cX8_proof 10 = .ok (.ifCond .eq 12, 3) := by decide +kernel
theorem dX8_proof_13 : decode cX8_proof 13 = .ok (.aload_n 0, 1) := by decide +kernel
theorem dX8_proof_14 : decode cX8_proof 14 = .ok (.getfield 22, 3) := by decide +kernel
theorem dX8_proof_17 : decode cX8_proof 17 = .ok (.iload_n 1, 1) := by decide +kernel
theorem dX8_proof_18 : decode cX8_proof 18 = .ok (.iaload, 1) := by decide +kernel
theorem dX8_proof_19 : decode cX8_proof 19 = .ok (.goto 8, 3) := by decide +kernel
theorem dX8_proof_22 : decode cX8_proof 22 = .ok (.aload_n 0, 1) := by decide +kernel
theorem dX8_proof_23 : decode cX8_proof 23 = .ok (.iconst 1, 1) := by decide +kernel
theorem dX8_proof_24 : decode cX8_proof 24 = .ok (.invokevirtual 153, 3) := by decide +kernel
theorem dX8_proof_27 : decode cX8_proof 27 = .ok (.ireturn, 1) := by decide +kernel
set_option maxRecDepth 20000 in
theorem ggX8_shortest_X8_isLevel : GoodIn wsX8_shortest wsX8_isLevel := goodIn_r _ [7, 8, 9, 10, 6, 11, 57, 58, 59, 60, 61, 62, 63, 64, 65, 66, 67, 68, 69, 70, 71, 72, 73, 74, 75, 76, 77, 78, 79, 80, 81, 82, 83, 84, 85, 86, 87, 88, 89, 90, 91, 92, 93, 94] (by decide +kernel) (by decide +kernel)
set_option maxRecDepth 20000 in
theorem gX8_shortest_X8_isLevel : GoodIn wsX8_shortest (wsV RX8 161 RX8 yX8_isLevel wsX8_isLevel) := goodIn_app (goodIn_of _ (by decide +kernel)) ggX8_shortest_X8_isLevel
set_option maxRecDepth 20000 in
theorem ggX8_shortest_X8_fails : GoodIn wsX8_shortest wsX8_fails := goodIn_r _ [15, 1, 57, 58, 59, 60, 61, 62, 63, 64, 65, 66, 67, 68, 69, 70, 71, 72, 73, 74, 75, 76, 77, 78, 79, 80, 81, 82, 83, 84, 85, 86, 87, 88, 89, 90, 91, 92, 93, 94] (by decide +kernel) (by decide +kernel)
set_option maxRecDepth 20000 in
theorem gX8_shortest_X8_fails : GoodIn wsX8_shortest (wsV RX8 153 RX8 yX8_fails wsX8_fails) := goodIn_app (goodIn_of _ (by decide +kernel)) ggX8_shortest_X8_fails
set_option maxRecDepth 20000 in
theorem ggX8_shortest_X8_in : GoodIn wsX8_shortest wsX8_in := goodIn_r _ [11] (by decide +kernel) (by decide +kernel)
set_option maxRecDepth 20000 in
theorem gX8_shortest_X8_in : GoodIn wsX8_shortest (va_wsS RX8 105 yX8_in wsX8_in) := goodIn_app (goodIn_of _ (by decide +kernel)) ggX8_shortest_X8_in
set_option maxRecDepth 20000 in
theorem ggX8_shortest_X8_lays : GoodIn wsX8_shortest wsX8_lays := goodIn_r _ [19, 20, 21, 22, 23, 24, 57, 58, 59, 60, 61, 62, 63, 64, 65, 66, 67, 68, 69, 70, 71, 72, 73, 74, 75, 76, 77, 78, 79, 80, 81, 82, 83, 84, 85, 86, 87, 88, 89, 90, 91, 92, 93, 94] (by decide +kernel) (by decide +kernel)
set_option maxRecDepth 20000 in
theorem gX8_shortest_X8_lays : GoodIn wsX8_shortest (wsV RX8 174 RX8 yX8_lays wsX8_lays) := goodIn_app (goodIn_of _ (by decide +kernel)) ggX8_shortest_X8_lays
set_option maxRecDepth 20000 in
theorem ggX8_shortest_X8_searches : GoodIn wsX8_shortest wsX8_searches := goodIn_r _ [28, 29, 30, 31, 32, 33, 34, 35, 36, 37, 38, 6, 39, 40, 41, 42, 43, 24, 21, 44, 45, 46, 47, 48, 49, 50, 51, 52, 53, 54, 55, 56, 20, 9, 10, 11, 57, 58, 59, 60, 61, 62, 63, 64, 65, 66, 67, 68, 69, 70, 71, 72, 73, 74, 75, 76, 77, 78, 79, 80, 81, 82, 83, 84, 85, 86, 87, 88, 89, 90, 91, 92, 93, 94] (by decide +kernel) (by decide +kernel)
set_option maxRecDepth 20000 in
theorem gX8_shortest_X8_searches : GoodIn wsX8_shortest (wsV RX8 178 RX8 yX8_searches wsX8_searches) := goodIn_app (goodIn_of _ (by decide +kernel)) ggX8_shortest_X8_searches
theorem dX8_shortest_0 : decode cX8_shortest 0 = .ok (.aload_n 0, 1) := by decide +kernel
theorem dX8_shortest_1 : decode cX8_shortest 1 = .ok (.iconst 0, 1) := by decide +kernel
theorem dX8_shortest_2 : decode cX8_shortest 2 = .ok (.putfield 101, 3) := by decide +kernel
theorem dX8_shortest_5 : decode cX8_shortest 5 = .ok (.aload_n 0, 1) := by decide +kernel
theorem dX8_shortest_6 : decode cX8_shortest 6 = .ok (.iload_n 1, 1) := by decide +kernel
theorem dX8_shortest_7 : decode cX8_shortest 7 = .ok (.invokevirtual 161, 3) := by decide +kernel
theorem dX8_shortest_10 : decode cX8_shortest 10 = .ok (.ifCond .ne 9, 3) := by decide +kernel
theorem dX8_shortest_13 : decode cX8_shortest 13 = .ok (.aload_n 0, 1) := by decide +kernel
theorem dX8_shortest_14 : decode cX8_shortest 14 = .ok (.iconst 1, 1) := by decide +kernel
theorem dX8_shortest_15 : decode cX8_shortest 15 = .ok (.invokevirtual 153, 3) := by decide +kernel
theorem dX8_shortest_18 : decode cX8_shortest 18 = .ok (.ireturn, 1) := by decide +kernel
theorem dX8_shortest_19 : decode cX8_shortest 19 = .ok (.iload_n 2, 1) := by decide +kernel
theorem dX8_shortest_20 : decode cX8_shortest 20 = .ok (.iconst 0, 1) := by decide +kernel
theorem dX8_shortest_21 : decode cX8_shortest 21 = .ok (.iconst 5, 1) := by decide +kernel
theorem dX8_shortest_22 : decode cX8_shortest 22 = .ok (.invokestatic 105, 3) := by decide +kernel
theorem dX8_shortest_25 : decode cX8_shortest 25 = .ok (.ifCond .ne 9, 3) := by decide +kernel
theorem dX8_shortest_28 : decode cX8_shortest 28 = .ok (.aload_n 0, 1) := by decide +kernel
theorem dX8_shortest_29 : decode cX8_shortest 29 = .ok (.iconst 2, 1) := by decide +kernel
theorem dX8_shortest_30 : decode cX8_shortest 30 = .ok (.invokevirtual 153, 3) := by decide +kernel
theorem dX8_shortest_33 : decode cX8_shortest 33 = .ok (.ireturn, 1) := by decide +kernel
theorem dX8_shortest_34 : decode cX8_shortest 34 = .ok (.aload_n 0, 1) := by decide +kernel
theorem dX8_shortest_35 : decode cX8_shortest 35 = .ok (.iconst 0, 1) := by decide +kernel
theorem dX8_shortest_36 : decode cX8_shortest 36 = .ok (.iload_n 1, 1) := by decide +kernel
theorem dX8_shortest_37 : decode cX8_shortest 37 = .ok (.invokevirtual 174, 3) := by decide +kernel
theorem dX8_shortest_40 : decode cX8_shortest 40 = .ok (.aload_n 0, 1) := by decide +kernel
theorem dX8_shortest_41 : decode cX8_shortest 41 = .ok (.aload_n 0, 1) := by decide +kernel
theorem dX8_shortest_42 : decode cX8_shortest 42 = .ok (.getfield 19, 3) := by decide +kernel
theorem dX8_shortest_45 : decode cX8_shortest 45 = .ok (.iload_n 1, 1) := by decide +kernel
theorem dX8_shortest_46 : decode cX8_shortest 46 = .ok (.iaload, 1) := by decide +kernel
theorem dX8_shortest_47 : decode cX8_shortest 47 = .ok (.invokevirtual 178, 3) := by decide +kernel
theorem dX8_shortest_50 : decode cX8_shortest 50 = .ok (.istore_n 3, 1) := by decide +kernel
theorem dX8_shortest_51 : decode cX8_shortest 51 = .ok (.iload_n 3, 1) := by decide +kernel
theorem dX8_shortest_52 : decode cX8_shortest 52 = .ok (.iload_n 2, 1) := by decide +kernel
theorem dX8_shortest_53 : decode cX8_shortest 53 = .ok (.if_icmp .gt 7, 3) := by decide +kernel
theorem dX8_shortest_56 : decode cX8_shortest 56 = .ok (.iload_n 3, 1) := by decide +kernel
theorem dX8_shortest_57 : decode cX8_shortest 57 = .ok (.goto 4, 3) := by decide +kernel
theorem dX8_shortest_60 : decode cX8_shortest 60 = .ok (.iconst (-1), 1) := by decide +kernel
theorem dX8_shortest_61 : decode cX8_shortest 61 = .ok (.ireturn, 1) := by decide +kernel
set_option maxRecDepth 20000 in
theorem ggX8_reach_X8_isLevel : GoodIn wsX8_reach wsX8_isLevel := goodIn_r _ [8, 9, 10, 11, 7, 12, 57, 58, 59, 60, 61, 62, 63, 64, 65, 66, 67, 68, 69, 70, 71, 72, 73, 74, 75, 76, 77, 78, 79, 80, 81, 82, 83, 84, 85, 86, 87, 88, 89, 90, 91, 92, 93, 94] (by decide +kernel) (by decide +kernel)
set_option maxRecDepth 20000 in
theorem gX8_reach_X8_isLevel : GoodIn wsX8_reach (wsV RX8 161 RX8 yX8_isLevel wsX8_isLevel) := goodIn_app (goodIn_of _ (by decide +kernel)) ggX8_reach_X8_isLevel
set_option maxRecDepth 20000 in
theorem ggX8_reach_X8_fails : GoodIn wsX8_reach wsX8_fails := goodIn_r _ [16, 1, 57, 58, 59, 60, 61, 62, 63, 64, 65, 66, 67, 68, 69, 70, 71, 72, 73, 74, 75, 76, 77, 78, 79, 80, 81, 82, 83, 84, 85, 86, 87, 88, 89, 90, 91, 92, 93, 94] (by decide +kernel) (by decide +kernel)
set_option maxRecDepth 20000 in
theorem gX8_reach_X8_fails : GoodIn wsX8_reach (wsV RX8 153 RX8 yX8_fails wsX8_fails) := goodIn_app (goodIn_of _ (by decide +kernel)) ggX8_reach_X8_fails
set_option maxRecDepth 20000 in
theorem ggX8_reach_X8_lays : GoodIn wsX8_reach wsX8_lays := goodIn_r _ [20, 21, 22, 23, 24, 25, 57, 58, 59, 60, 61, 62, 63, 64, 65, 66, 67, 68, 69, 70, 71, 72, 73, 74, 75, 76, 77, 78, 79, 80, 81, 82, 83, 84, 85, 86, 87, 88, 89, 90, 91, 92, 93, 94] (by decide +kernel) (by decide +kernel)
set_option maxRecDepth 20000 in
theorem gX8_reach_X8_lays : GoodIn wsX8_reach (wsV RX8 174 RX8 yX8_lays wsX8_lays) := goodIn_app (goodIn_of _ (by decide +kernel)) ggX8_reach_X8_lays
set_option maxRecDepth 20000 in
theorem ggX8_reach_X8_searches : GoodIn wsX8_reach wsX8_searches := goodIn_r _ [29, 30, 3, 31, 32, 33, 34, 35, 36, 37, 38, 7, 39, 40, 41, 42, 43, 25, 22, 44, 45, 46, 47, 48, 49, 50, 51, 52, 53, 54, 55, 56, 21, 10, 11, 12, 57, 58, 59, 60, 61, 62, 63, 64, 65, 66, 67, 68, 69, 70, 71, 72, 73, 74, 75, 76, 77, 78, 79, 80, 81, 82, 83, 84, 85, 86, 87, 88, 89, 90, 91, 92, 93, 94] (by decide +kernel) (by decide +kernel)
set_option maxRecDepth 20000 in
theorem gX8_reach_X8_searches : GoodIn wsX8_reach (wsV RX8 178 RX8 yX8_searches wsX8_searches) := goodIn_app (goodIn_of _ (by decide +kernel)) ggX8_reach_X8_searches
theorem dX8_reach_0 : decode cX8_reach 0 = .ok (.aload_n 0, 1) := by decide +kernel
theorem dX8_reach_1 : decode cX8_reach 1 = .ok (.iconst 0, 1) := by decide +kernel
theorem dX8_reach_2 : decode cX8_reach 2 = .ok (.putfield 101, 3) := by decide +kernel
theorem dX8_reach_5 : decode cX8_reach 5 = .ok (.aload_n 0, 1) := by decide +kernel
theorem dX8_reach_6 : decode cX8_reach 6 = .ok (.iload_n 1, 1) := by decide +kernel
theorem dX8_reach_7 : decode cX8_reach 7 = .ok (.invokevirtual 161, 3) := by decide +kernel
theorem dX8_reach_10 : decode cX8_reach 10 = .ok (.ifCond .ne 9, 3) := by decide +kernel
theorem dX8_reach_13 : decode cX8_reach 13 = .ok (.aload_n 0, 1) := by decide +kernel
theorem dX8_reach_14 : decode cX8_reach 14 = .ok (.iconst 1, 1) := by decide +kernel
theorem dX8_reach_15 : decode cX8_reach 15 = .ok (.invokevirtual 153, 3) := by decide +kernel
theorem dX8_reach_18 : decode cX8_reach 18 = .ok (.ireturn, 1) := by decide +kernel
theorem dX8_reach_19 : decode cX8_reach 19 = .ok (.aload_n 0, 1) := by decide +kernel
theorem dX8_reach_20 : decode cX8_reach 20 = .ok (.iconst 0, 1) := by decide +kernel
theorem dX8_reach_21 : decode cX8_reach 21 = .ok (.iload_n 1, 1) := by decide +kernel
theorem dX8_reach_22 : decode cX8_reach 22 = .ok (.invokevirtual 174, 3) := by decide +kernel
theorem dX8_reach_25 : decode cX8_reach 25 = .ok (.aload_n 0, 1) := by decide +kernel
theorem dX8_reach_26 : decode cX8_reach 26 = .ok (.aload_n 0, 1) := by decide +kernel
theorem dX8_reach_27 : decode cX8_reach 27 = .ok (.getfield 19, 3) := by decide +kernel
theorem dX8_reach_30 : decode cX8_reach 30 = .ok (.iload_n 1, 1) := by decide +kernel
theorem dX8_reach_31 : decode cX8_reach 31 = .ok (.iaload, 1) := by decide +kernel
theorem dX8_reach_32 : decode cX8_reach 32 = .ok (.invokevirtual 178, 3) := by decide +kernel
theorem dX8_reach_35 : decode cX8_reach 35 = .ok (.istore_n 2, 1) := by decide +kernel
theorem dX8_reach_36 : decode cX8_reach 36 = .ok (.iconst 0, 1) := by decide +kernel
theorem dX8_reach_37 : decode cX8_reach 37 = .ok (.istore_n 3, 1) := by decide +kernel
theorem dX8_reach_38 : decode cX8_reach 38 = .ok (.iconst 0, 1) := by decide +kernel
theorem dX8_reach_39 : decode cX8_reach 39 = .ok (.istore 4, 2) := by decide +kernel
theorem dX8_reach_41 : decode cX8_reach 41 = .ok (.iload 4, 2) := by decide +kernel
theorem dX8_reach_43 : decode cX8_reach 43 = .ok (.bipush 96, 2) := by decide +kernel
theorem dX8_reach_45 : decode cX8_reach 45 = .ok (.if_icmp .ge 27, 3) := by decide +kernel
theorem dX8_reach_48 : decode cX8_reach 48 = .ok (.iload_n 3, 1) := by decide +kernel
theorem dX8_reach_49 : decode cX8_reach 49 = .ok (.aload_n 0, 1) := by decide +kernel
theorem dX8_reach_50 : decode cX8_reach 50 = .ok (.getfield 97, 3) := by decide +kernel
theorem dX8_reach_53 : decode cX8_reach 53 = .ok (.iload 4, 2) := by decide +kernel
theorem dX8_reach_55 : decode cX8_reach 55 = .ok (.baload, 1) := by decide +kernel
theorem dX8_reach_56 : decode cX8_reach 56 = .ok (.ifCond .eq 7, 3) := by decide +kernel
theorem dX8_reach_59 : decode cX8_reach 59 = .ok (.iconst 1, 1) := by decide +kernel
theorem dX8_reach_60 : decode cX8_reach 60 = .ok (.goto 4, 3) := by decide +kernel
theorem dX8_reach_63 : decode cX8_reach 63 = .ok (.iconst 0, 1) := by decide +kernel
theorem dX8_reach_64 : decode cX8_reach 64 = .ok (.iadd, 1) := by decide +kernel
theorem dX8_reach_65 : decode cX8_reach 65 = .ok (.istore_n 3, 1) := by decide +kernel
theorem dX8_reach_66 : decode cX8_reach 66 = .ok (.iinc 4 1, 3) := by decide +kernel
theorem dX8_reach_69 : decode cX8_reach 69 = .ok (.goto (-28), 3) := by decide +kernel
theorem dX8_reach_72 : decode cX8_reach 72 = .ok (.iload_n 3, 1) := by decide +kernel
theorem dX8_reach_73 : decode cX8_reach 73 = .ok (.ireturn, 1) := by decide +kernel
set_option maxRecDepth 20000 in
theorem ggX8_farthest_X8_isLevel : GoodIn wsX8_farthest wsX8_isLevel := goodIn_r _ [8, 9, 10, 11, 7, 12, 57, 58, 59, 60, 61, 62, 63, 64, 65, 66, 67, 68, 69, 70, 71, 72, 73, 74, 75, 76, 77, 78, 79, 80, 81, 82, 83, 84, 85, 86, 87, 88, 89, 90, 91, 92, 93, 94] (by decide +kernel) (by decide +kernel)
set_option maxRecDepth 20000 in
theorem gX8_farthest_X8_isLevel : GoodIn wsX8_farthest (wsV RX8 161 RX8 yX8_isLevel wsX8_isLevel) := goodIn_app (goodIn_of _ (by decide +kernel)) ggX8_farthest_X8_isLevel
set_option maxRecDepth 20000 in
theorem ggX8_farthest_X8_fails : GoodIn wsX8_farthest wsX8_fails := goodIn_r _ [16, 1, 57, 58, 59, 60, 61, 62, 63, 64, 65, 66, 67, 68, 69, 70, 71, 72, 73, 74, 75, 76, 77, 78, 79, 80, 81, 82, 83, 84, 85, 86, 87, 88, 89, 90, 91, 92, 93, 94] (by decide +kernel) (by decide +kernel)
set_option maxRecDepth 20000 in
theorem gX8_farthest_X8_fails : GoodIn wsX8_farthest (wsV RX8 153 RX8 yX8_fails wsX8_fails) := goodIn_app (goodIn_of _ (by decide +kernel)) ggX8_farthest_X8_fails
set_option maxRecDepth 20000 in
theorem ggX8_farthest_X8_lays : GoodIn wsX8_farthest wsX8_lays := goodIn_r _ [20, 21, 22, 23, 24, 25, 57, 58, 59, 60, 61, 62, 63, 64, 65, 66, 67, 68, 69, 70, 71, 72, 73, 74, 75, 76, 77, 78, 79, 80, 81, 82, 83, 84, 85, 86, 87, 88, 89, 90, 91, 92, 93, 94] (by decide +kernel) (by decide +kernel)
set_option maxRecDepth 20000 in
theorem gX8_farthest_X8_lays : GoodIn wsX8_farthest (wsV RX8 174 RX8 yX8_lays wsX8_lays) := goodIn_app (goodIn_of _ (by decide +kernel)) ggX8_farthest_X8_lays
set_option maxRecDepth 20000 in
theorem ggX8_farthest_X8_searches : GoodIn wsX8_farthest wsX8_searches := goodIn_r _ [29, 30, 3, 31, 32, 33, 34, 35, 36, 37, 38, 7, 39, 40, 41, 42, 43, 25, 22, 44, 45, 46, 47, 48, 49, 50, 51, 52, 53, 54, 55, 56, 21, 10, 11, 12, 57, 58, 59, 60, 61, 62, 63, 64, 65, 66, 67, 68, 69, 70, 71, 72, 73, 74, 75, 76, 77, 78, 79, 80, 81, 82, 83, 84, 85, 86, 87, 88, 89, 90, 91, 92, 93, 94] (by decide +kernel) (by decide +kernel)
set_option maxRecDepth 20000 in
theorem gX8_farthest_X8_searches : GoodIn wsX8_farthest (wsV RX8 178 RX8 yX8_searches wsX8_searches) := goodIn_app (goodIn_of _ (by decide +kernel)) ggX8_farthest_X8_searches
theorem dX8_farthest_0 : decode cX8_farthest 0 = .ok (.aload_n 0, 1) := by decide +kernel
theorem dX8_farthest_1 : decode cX8_farthest 1 = .ok (.iconst 0, 1) := by decide +kernel
theorem dX8_farthest_2 : decode cX8_farthest 2 = .ok (.putfield 101, 3) := by decide +kernel
theorem dX8_farthest_5 : decode cX8_farthest 5 = .ok (.aload_n 0, 1) := by decide +kernel
theorem dX8_farthest_6 : decode cX8_farthest 6 = .ok (.iload_n 1, 1) := by decide +kernel
theorem dX8_farthest_7 : decode cX8_farthest 7 = .ok (.invokevirtual 161, 3) := by decide +kernel
theorem dX8_farthest_10 : decode cX8_farthest 10 = .ok (.ifCond .ne 9, 3) := by decide +kernel
theorem dX8_farthest_13 : decode cX8_farthest 13 = .ok (.aload_n 0, 1) := by decide +kernel
theorem dX8_farthest_14 : decode cX8_farthest 14 = .ok (.iconst 1, 1) := by decide +kernel
theorem dX8_farthest_15 : decode cX8_farthest 15 = .ok (.invokevirtual 153, 3) := by decide +kernel
theorem dX8_farthest_18 : decode cX8_farthest 18 = .ok (.ireturn, 1) := by decide +kernel
theorem dX8_farthest_19 : decode cX8_farthest 19 = .ok (.aload_n 0, 1) := by decide +kernel
theorem dX8_farthest_20 : decode cX8_farthest 20 = .ok (.iconst 0, 1) := by decide +kernel
theorem dX8_farthest_21 : decode cX8_farthest 21 = .ok (.iload_n 1, 1) := by decide +kernel
theorem dX8_farthest_22 : decode cX8_farthest 22 = .ok (.invokevirtual 174, 3) := by decide +kernel
theorem dX8_farthest_25 : decode cX8_farthest 25 = .ok (.aload_n 0, 1) := by decide +kernel
theorem dX8_farthest_26 : decode cX8_farthest 26 = .ok (.aload_n 0, 1) := by decide +kernel
theorem dX8_farthest_27 : decode cX8_farthest 27 = .ok (.getfield 19, 3) := by decide +kernel
theorem dX8_farthest_30 : decode cX8_farthest 30 = .ok (.iload_n 1, 1) := by decide +kernel
theorem dX8_farthest_31 : decode cX8_farthest 31 = .ok (.iaload, 1) := by decide +kernel
theorem dX8_farthest_32 : decode cX8_farthest 32 = .ok (.invokevirtual 178, 3) := by decide +kernel
theorem dX8_farthest_35 : decode cX8_farthest 35 = .ok (.istore_n 2, 1) := by decide +kernel
theorem dX8_farthest_36 : decode cX8_farthest 36 = .ok (.iconst (-1), 1) := by decide +kernel
theorem dX8_farthest_37 : decode cX8_farthest 37 = .ok (.istore_n 3, 1) := by decide +kernel
theorem dX8_farthest_38 : decode cX8_farthest 38 = .ok (.iconst 0, 1) := by decide +kernel
theorem dX8_farthest_39 : decode cX8_farthest 39 = .ok (.istore 4, 2) := by decide +kernel
theorem dX8_farthest_41 : decode cX8_farthest 41 = .ok (.iload 4, 2) := by decide +kernel
theorem dX8_farthest_43 : decode cX8_farthest 43 = .ok (.bipush 96, 2) := by decide +kernel
theorem dX8_farthest_45 : decode cX8_farthest 45 = .ok (.if_icmp .ge 43, 3) := by decide +kernel
theorem dX8_farthest_48 : decode cX8_farthest 48 = .ok (.aload_n 0, 1) := by decide +kernel
theorem dX8_farthest_49 : decode cX8_farthest 49 = .ok (.getfield 97, 3) := by decide +kernel
theorem dX8_farthest_52 : decode cX8_farthest 52 = .ok (.iload 4, 2) := by decide +kernel
theorem dX8_farthest_54 : decode cX8_farthest 54 = .ok (.baload, 1) := by decide +kernel
theorem dX8_farthest_55 : decode cX8_farthest 55 = .ok (.ifCond .eq 25, 3) := by decide +kernel
theorem dX8_farthest_58 : decode cX8_farthest 58 = .ok (.iload_n 3, 1) := by decide +kernel
theorem dX8_farthest_59 : decode cX8_farthest 59 = .ok (.iconst (-1), 1) := by decide +kernel
theorem dX8_farthest_60 : decode cX8_farthest 60 = .ok (.if_icmp .eq 15, 3) := by decide +kernel
theorem dX8_farthest_63 : decode cX8_farthest 63 = .ok (.iload 4, 2) := by decide +kernel
theorem dX8_farthest_65 : decode cX8_farthest 65 = .ok (.bipush 12, 2) := by decide +kernel
theorem dX8_farthest_67 : decode cX8_farthest 67 = .ok (.irem, 1) := by decide +kernel
theorem dX8_farthest_68 : decode cX8_farthest 68 = .ok (.iload_n 3, 1) := by decide +kernel
theorem dX8_farthest_69 : decode cX8_farthest 69 = .ok (.bipush 12, 2) := by decide +kernel
theorem dX8_farthest_71 : decode cX8_farthest 71 = .ok (.irem, 1) := by decide +kernel
theorem dX8_farthest_72 : decode cX8_farthest 72 = .ok (.if_icmp .le 8, 3) := by decide +kernel
theorem dX8_farthest_75 : decode cX8_farthest 75 = .ok (.iload 4, 2) := by decide +kernel
theorem dX8_farthest_77 : decode cX8_farthest 77 = .ok (.goto 4, 3) := by decide +kernel
theorem dX8_farthest_80 : decode cX8_farthest 80 = .ok (.iload_n 3, 1) := by decide +kernel
theorem dX8_farthest_81 : decode cX8_farthest 81 = .ok (.istore_n 3, 1) := by decide +kernel
theorem dX8_farthest_82 : decode cX8_farthest 82 = .ok (.iinc 4 1, 3) := by decide +kernel
theorem dX8_farthest_85 : decode cX8_farthest 85 = .ok (.goto (-44), 3) := by decide +kernel
theorem dX8_farthest_88 : decode cX8_farthest 88 = .ok (.iload_n 3, 1) := by decide +kernel
theorem dX8_farthest_89 : decode cX8_farthest 89 = .ok (.ireturn, 1) := by decide +kernel
set_option maxRecDepth 20000 in
theorem ggX8_strength_X8_in : GoodIn wsX8_strength wsX8_in := goodIn_r _ [6] (by decide +kernel) (by decide +kernel)
set_option maxRecDepth 20000 in
theorem gX8_strength_X8_in : GoodIn wsX8_strength (va_wsS RX8 105 yX8_in wsX8_in) := goodIn_app (goodIn_of _ (by decide +kernel)) ggX8_strength_X8_in
set_option maxRecDepth 20000 in
theorem ggX8_strength_X8_fails : GoodIn wsX8_strength wsX8_fails := goodIn_r _ [10, 1, 11, 12, 13, 14, 15, 16, 17, 18, 19, 20, 21, 22, 23, 24, 25, 26, 27, 28, 29, 30, 31, 32, 33, 34, 35, 36, 37, 38, 39, 40, 41, 42, 43, 44, 45, 46, 47, 48] (by decide +kernel) (by decide +kernel)
set_option maxRecDepth 20000 in
theorem gX8_strength_X8_fails : GoodIn wsX8_strength (wsV RX8 153 RX8 yX8_fails wsX8_fails) := goodIn_app (goodIn_of _ (by decide +kernel)) ggX8_strength_X8_fails
theorem dX8_strength_0 : decode cX8_strength 0 = .ok (.aload_n 0, 1) := by decide +kernel
theorem dX8_strength_1 : decode cX8_strength 1 = .ok (.iconst 0, 1) := by decide +kernel
theorem dX8_strength_2 : decode cX8_strength 2 = .ok (.putfield 101, 3) := by decide +kernel
theorem dX8_strength_5 : decode cX8_strength 5 = .ok (.iload_n 1, 1) := by decide +kernel
theorem dX8_strength_6 : decode cX8_strength 6 = .ok (.iconst 0, 1) := by decide +kernel
theorem dX8_strength_7 : decode cX8_strength 7 = .ok (.iconst 2, 1) := by decide +kernel
theorem dX8_strength_8 : decode cX8_strength 8 = .ok (.invokestatic 105, 3) := by decide +kernel
theorem dX8_strength_11 : decode cX8_strength 11 = .ok (.ifCond .eq 12, 3) := by decide +kernel
theorem dX8_strength_14 : decode cX8_strength 14 = .ok (.aload_n 0, 1) := by decide +kernel
theorem dX8_strength_15 : decode cX8_strength 15 = .ok (.getfield 7, 3) := by decide +kernel
theorem dX8_strength_18 : decode cX8_strength 18 = .ok (.iload_n 1, 1) := by decide +kernel
theorem dX8_strength_19 : decode cX8_strength 19 = .ok (.iaload, 1) := by decide +kernel
theorem dX8_strength_20 : decode cX8_strength 20 = .ok (.goto 8, 3) := by decide +kernel
theorem dX8_strength_23 : decode cX8_strength 23 = .ok (.aload_n 0, 1) := by decide +kernel
theorem dX8_strength_24 : decode cX8_strength 24 = .ok (.iconst 1, 1) := by decide +kernel
theorem dX8_strength_25 : decode cX8_strength 25 = .ok (.invokevirtual 153, 3) := by decide +kernel
theorem dX8_strength_28 : decode cX8_strength 28 = .ok (.ireturn, 1) := by decide +kernel
theorem dX8_works_0 : decode cX8_works 0 = .ok (.aload_n 0, 1) := by decide +kernel
theorem dX8_works_1 : decode cX8_works 1 = .ok (.iconst 0, 1) := by decide +kernel
theorem dX8_works_2 : decode cX8_works 2 = .ok (.putfield 101, 3) := by decide +kernel
theorem dX8_works_5 : decode cX8_works 5 = .ok (.aload_n 0, 1) := by decide +kernel
theorem dX8_works_6 : decode cX8_works 6 = .ok (.getfield 112, 3) := by decide +kernel
theorem dX8_works_9 : decode cX8_works 9 = .ok (.ireturn, 1) := by decide +kernel
set_option maxRecDepth 20000 in
theorem ggX8_author_X8_isWork : GoodIn wsX8_author wsX8_isWork := goodIn_r _ [7, 8, 9, 10, 6, 11, 16, 17, 18, 19, 20, 21, 22, 23, 24, 25, 26, 27, 28, 29, 30, 31, 32, 33, 34, 35, 36, 37, 38, 39, 40, 41, 42, 43, 44, 45, 46, 47, 48, 49, 50, 51, 52, 53] (by decide +kernel) (by decide +kernel)
set_option maxRecDepth 20000 in
theorem gX8_author_X8_isWork : GoodIn wsX8_author (wsV RX8 190 RX8 yX8_isWork wsX8_isWork) := goodIn_app (goodIn_of _ (by decide +kernel)) ggX8_author_X8_isWork
set_option maxRecDepth 20000 in
theorem ggX8_author_X8_fails : GoodIn wsX8_author wsX8_fails := goodIn_r _ [15, 1, 16, 17, 18, 19, 20, 21, 22, 23, 24, 25, 26, 27, 28, 29, 30, 31, 32, 33, 34, 35, 36, 37, 38, 39, 40, 41, 42, 43, 44, 45, 46, 47, 48, 49, 50, 51, 52, 53] (by decide +kernel) (by decide +kernel)
set_option maxRecDepth 20000 in
theorem gX8_author_X8_fails : GoodIn wsX8_author (wsV RX8 153 RX8 yX8_fails wsX8_fails) := goodIn_app (goodIn_of _ (by decide +kernel)) ggX8_author_X8_fails
theorem dX8_author_0 : decode cX8_author 0 = .ok (.aload_n 0, 1) := by decide +kernel
theorem dX8_author_1 : decode cX8_author 1 = .ok (.iconst 0, 1) := by decide +kernel
theorem dX8_author_2 : decode cX8_author 2 = .ok (.putfield 101, 3) := by decide +kernel
theorem dX8_author_5 : decode cX8_author 5 = .ok (.aload_n 0, 1) := by decide +kernel
theorem dX8_author_6 : decode cX8_author 6 = .ok (.iload_n 1, 1) := by decide +kernel
theorem dX8_author_7 : decode cX8_author 7 = .ok (.invokevirtual 190, 3) := by decide +kernel
theorem dX8_author_10 : decode cX8_author 10 = .ok (.ifCond .eq 12, 3) := by decide +kernel
theorem dX8_author_13 : decode cX8_author 13 = .ok (.aload_n 0, 1) := by decide +kernel
theorem dX8_author_14 : decode cX8_author 14 = .ok (.getfield 46, 3) := by decide +kernel
theorem dX8_author_17 : decode cX8_author 17 = .ok (.iload_n 1, 1) := by decide +kernel
theorem dX8_author_18 : decode cX8_author 18 = .ok (.iaload, 1) := by decide +kernel
theorem dX8_author_19 : decode cX8_author 19 = .ok (.goto 8, 3) := by decide +kernel
theorem dX8_author_22 : decode cX8_author 22 = .ok (.aload_n 0, 1) := by decide +kernel
theorem dX8_author_23 : decode cX8_author 23 = .ok (.iconst 1, 1) := by decide +kernel
theorem dX8_author_24 : decode cX8_author 24 = .ok (.invokevirtual 153, 3) := by decide +kernel
theorem dX8_author_27 : decode cX8_author 27 = .ok (.ireturn, 1) := by decide +kernel
set_option maxRecDepth 20000 in
theorem ggX8_best_X8_isWork : GoodIn wsX8_best wsX8_isWork := goodIn_r _ [7, 8, 9, 10, 6, 11, 16, 17, 18, 19, 20, 21, 22, 23, 24, 25, 26, 27, 28, 29, 30, 31, 32, 33, 34, 35, 36, 37, 38, 39, 40, 41, 42, 43, 44, 45, 46, 47, 48, 49, 50, 51, 52, 53] (by decide +kernel) (by decide +kernel)
set_option maxRecDepth 20000 in
theorem gX8_best_X8_isWork : GoodIn wsX8_best (wsV RX8 190 RX8 yX8_isWork wsX8_isWork) := goodIn_app (goodIn_of _ (by decide +kernel)) ggX8_best_X8_isWork
set_option maxRecDepth 20000 in
theorem ggX8_best_X8_fails : GoodIn wsX8_best wsX8_fails := goodIn_r _ [15, 1, 16, 17, 18, 19, 20, 21, 22, 23, 24, 25, 26, 27, 28, 29, 30, 31, 32, 33, 34, 35, 36, 37, 38, 39, 40, 41, 42, 43, 44, 45, 46, 47, 48, 49, 50, 51, 52, 53] (by decide +kernel) (by decide +kernel)
set_option maxRecDepth 20000 in
theorem gX8_best_X8_fails : GoodIn wsX8_best (wsV RX8 153 RX8 yX8_fails wsX8_fails) := goodIn_app (goodIn_of _ (by decide +kernel)) ggX8_best_X8_fails
theorem dX8_best_0 : decode cX8_best 0 = .ok (.aload_n 0, 1) := by decide +kernel
theorem dX8_best_1 : decode cX8_best 1 = .ok (.iconst 0, 1) := by decide +kernel
theorem dX8_best_2 : decode cX8_best 2 = .ok (.putfield 101, 3) := by decide +kernel
theorem dX8_best_5 : decode cX8_best 5 = .ok (.aload_n 0, 1) := by decide +kernel
theorem dX8_best_6 : decode cX8_best 6 = .ok (.iload_n 1, 1) := by decide +kernel
theorem dX8_best_7 : decode cX8_best 7 = .ok (.invokevirtual 190, 3) := by decide +kernel
theorem dX8_best_10 : decode cX8_best 10 = .ok (.ifCond .eq 12, 3) := by decide +kernel
theorem dX8_best_13 : decode cX8_best 13 = .ok (.aload_n 0, 1) := by decide +kernel
theorem dX8_best_14 : decode cX8_best 14 = .ok (.getfield 55, 3) := by decide +kernel
theorem dX8_best_17 : decode cX8_best 17 = .ok (.iload_n 1, 1) := by decide +kernel
theorem dX8_best_18 : decode cX8_best 18 = .ok (.iaload, 1) := by decide +kernel
theorem dX8_best_19 : decode cX8_best 19 = .ok (.goto 8, 3) := by decide +kernel
theorem dX8_best_22 : decode cX8_best 22 = .ok (.aload_n 0, 1) := by decide +kernel
theorem dX8_best_23 : decode cX8_best 23 = .ok (.iconst 1, 1) := by decide +kernel
theorem dX8_best_24 : decode cX8_best 24 = .ok (.invokevirtual 153, 3) := by decide +kernel
theorem dX8_best_27 : decode cX8_best 27 = .ok (.ireturn, 1) := by decide +kernel
set_option maxRecDepth 20000 in
theorem ggX8_parent_X8_isWork : GoodIn wsX8_parent wsX8_isWork := goodIn_r _ [7, 8, 9, 10, 6, 11, 16, 17, 18, 19, 20, 21, 22, 23, 24, 25, 26, 27, 28, 29, 30, 31, 32, 33, 34, 35, 36, 37, 38, 39, 40, 41, 42, 43, 44, 45, 46, 47, 48, 49, 50, 51, 52, 53] (by decide +kernel) (by decide +kernel)
set_option maxRecDepth 20000 in
theorem gX8_parent_X8_isWork : GoodIn wsX8_parent (wsV RX8 190 RX8 yX8_isWork wsX8_isWork) := goodIn_app (goodIn_of _ (by decide +kernel)) ggX8_parent_X8_isWork
set_option maxRecDepth 20000 in
theorem ggX8_parent_X8_fails : GoodIn wsX8_parent wsX8_fails := goodIn_r _ [15, 1, 16, 17, 18, 19, 20, 21, 22, 23, 24, 25, 26, 27, 28, 29, 30, 31, 32, 33, 34, 35, 36, 37, 38, 39, 40, 41, 42, 43, 44, 45, 46, 47, 48, 49, 50, 51, 52, 53] (by decide +kernel) (by decide +kernel)
set_option maxRecDepth 20000 in
theorem gX8_parent_X8_fails : GoodIn wsX8_parent (wsV RX8 153 RX8 yX8_fails wsX8_fails) := goodIn_app (goodIn_of _ (by decide +kernel)) ggX8_parent_X8_fails
theorem dX8_parent_0 : decode cX8_parent 0 = .ok (.aload_n 0, 1) := by decide +kernel
theorem dX8_parent_1 : decode cX8_parent 1 = .ok (.iconst 0, 1) := by decide +kernel
theorem dX8_parent_2 : decode cX8_parent 2 = .ok (.putfield 101, 3) := by decide +kernel
theorem dX8_parent_5 : decode cX8_parent 5 = .ok (.aload_n 0, 1) := by decide +kernel
theorem dX8_parent_6 : decode cX8_parent 6 = .ok (.iload_n 1, 1) := by decide +kernel
theorem dX8_parent_7 : decode cX8_parent 7 = .ok (.invokevirtual 190, 3) := by decide +kernel
theorem dX8_parent_10 : decode cX8_parent 10 = .ok (.ifCond .eq 12, 3) := by decide +kernel
theorem dX8_parent_13 : decode cX8_parent 13 = .ok (.aload_n 0, 1) := by decide +kernel
theorem dX8_parent_14 : decode cX8_parent 14 = .ok (.getfield 58, 3) := by decide +kernel
theorem dX8_parent_17 : decode cX8_parent 17 = .ok (.iload_n 1, 1) := by decide +kernel
theorem dX8_parent_18 : decode cX8_parent 18 = .ok (.iaload, 1) := by decide +kernel
theorem dX8_parent_19 : decode cX8_parent 19 = .ok (.goto 8, 3) := by decide +kernel
theorem dX8_parent_22 : decode cX8_parent 22 = .ok (.aload_n 0, 1) := by decide +kernel
theorem dX8_parent_23 : decode cX8_parent 23 = .ok (.iconst 1, 1) := by decide +kernel
theorem dX8_parent_24 : decode cX8_parent 24 = .ok (.invokevirtual 153, 3) := by decide +kernel
theorem dX8_parent_27 : decode cX8_parent 27 = .ok (.ireturn, 1) := by decide +kernel
theorem dX8_isInLine_0 : decode cX8_isInLine 0 = .ok (.iload_n 2, 1) := by decide +kernel
theorem dX8_isInLine_1 : decode cX8_isInLine 1 = .ok (.istore_n 3, 1) := by decide +kernel
theorem dX8_isInLine_2 : decode cX8_isInLine 2 = .ok (.iload_n 3, 1) := by decide +kernel
theorem dX8_isInLine_3 : decode cX8_isInLine 3 = .ok (.iconst (-1), 1) := by decide +kernel
theorem dX8_isInLine_4 : decode cX8_isInLine 4 = .ok (.if_icmp .eq 18, 3) := by decide +kernel
theorem dX8_isInLine_7 : decode cX8_isInLine 7 = .ok (.iload_n 3, 1) := by decide +kernel
theorem dX8_isInLine_8 : decode cX8_isInLine 8 = .ok (.iload_n 1, 1) := by decide +kernel
theorem dX8_isInLine_9 : decode cX8_isInLine 9 = .ok (.if_icmp .eq 13, 3) := by decide +kernel
theorem dX8_isInLine_12 : decode cX8_isInLine 12 = .ok (.aload_n 0, 1) := by decide +kernel
theorem dX8_isInLine_13 : decode cX8_isInLine 13 = .ok (.getfield 58, 3) := by decide +kernel
theorem dX8_isInLine_16 : decode cX8_isInLine 16 = .ok (.iload_n 3, 1) := by decide +kernel
theorem dX8_isInLine_17 : decode cX8_isInLine 17 = .ok (.iaload, 1) := by decide +kernel
theorem dX8_isInLine_18 : decode cX8_isInLine 18 = .ok (.istore_n 3, 1) := by decide +kernel
theorem dX8_isInLine_19 : decode cX8_isInLine 19 = .ok (.goto (-17), 3) := by decide +kernel
theorem dX8_isInLine_22 : decode cX8_isInLine 22 = .ok (.iload_n 3, 1) := by decide +kernel
theorem dX8_isInLine_23 : decode cX8_isInLine 23 = .ok (.iload_n 1, 1) := by decide +kernel
theorem dX8_isInLine_24 : decode cX8_isInLine 24 = .ok (.if_icmp .ne 7, 3) := by decide +kernel
theorem dX8_isInLine_27 : decode cX8_isInLine 27 = .ok (.iconst 1, 1) := by decide +kernel
theorem dX8_isInLine_28 : decode cX8_isInLine 28 = .ok (.goto 4, 3) := by decide +kernel
theorem dX8_isInLine_31 : decode cX8_isInLine 31 = .ok (.iconst 0, 1) := by decide +kernel
theorem dX8_isInLine_32 : decode cX8_isInLine 32 = .ok (.ireturn, 1) := by decide +kernel
set_option maxRecDepth 20000 in
theorem ggX8_line_X8_isWork : GoodIn wsX8_line wsX8_isWork := goodIn_r _ [7, 2, 8, 9, 6, 10, 20, 21, 22, 23, 24, 25, 26, 27, 28, 29, 30, 31, 32, 33, 34, 35, 36, 37, 38, 39, 40, 41, 42, 43, 44, 45, 46, 47, 48, 49, 50, 51, 52, 53, 54, 55, 56, 57] (by decide +kernel) (by decide +kernel)
set_option maxRecDepth 20000 in
theorem gX8_line_X8_isWork : GoodIn wsX8_line (wsV RX8 190 RX8 yX8_isWork wsX8_isWork) := goodIn_app (goodIn_of _ (by decide +kernel)) ggX8_line_X8_isWork
set_option maxRecDepth 20000 in
theorem ggX8_line_X8_fails : GoodIn wsX8_line wsX8_fails := goodIn_r _ [14, 1, 20, 21, 22, 23, 24, 25, 26, 27, 28, 29, 30, 31, 32, 33, 34, 35, 36, 37, 38, 39, 40, 41, 42, 43, 44, 45, 46, 47, 48, 49, 50, 51, 52, 53, 54, 55, 56, 57] (by decide +kernel) (by decide +kernel)
set_option maxRecDepth 20000 in
theorem gX8_line_X8_fails : GoodIn wsX8_line (wsV RX8 153 RX8 yX8_fails wsX8_fails) := goodIn_app (goodIn_of _ (by decide +kernel)) ggX8_line_X8_fails
set_option maxRecDepth 20000 in
theorem ggX8_line_X8_isInLine : GoodIn wsX8_line wsX8_isInLine := goodIn_r _ [18, 19, 20, 21, 22, 23, 24, 25, 26, 27, 28, 29, 30, 31, 32, 33, 34, 35, 36, 37, 38, 39, 40, 41, 42, 43, 44, 45, 46, 47, 48, 49, 50, 51, 52, 53, 54, 55, 56, 57] (by decide +kernel) (by decide +kernel)
set_option maxRecDepth 20000 in
theorem gX8_line_X8_isInLine : GoodIn wsX8_line (wsV RX8 196 RX8 yX8_isInLine wsX8_isInLine) := goodIn_app (goodIn_of _ (by decide +kernel)) ggX8_line_X8_isInLine
theorem dX8_line_0 : decode cX8_line 0 = .ok (.aload_n 0, 1) := by decide +kernel
theorem dX8_line_1 : decode cX8_line 1 = .ok (.iconst 0, 1) := by decide +kernel
theorem dX8_line_2 : decode cX8_line 2 = .ok (.putfield 101, 3) := by decide +kernel
theorem dX8_line_5 : decode cX8_line 5 = .ok (.aload_n 0, 1) := by decide +kernel
theorem dX8_line_6 : decode cX8_line 6 = .ok (.iload_n 1, 1) := by decide +kernel
theorem dX8_line_7 : decode cX8_line 7 = .ok (.invokevirtual 190, 3) := by decide +kernel
theorem dX8_line_10 : decode cX8_line 10 = .ok (.ifCond .ne 9, 3) := by decide +kernel
theorem dX8_line_13 : decode cX8_line 13 = .ok (.aload_n 0, 1) := by decide +kernel
theorem dX8_line_14 : decode cX8_line 14 = .ok (.iconst 1, 1) := by decide +kernel
theorem dX8_line_15 : decode cX8_line 15 = .ok (.invokevirtual 153, 3) := by decide +kernel
theorem dX8_line_18 : decode cX8_line 18 = .ok (.ireturn, 1) := by decide +kernel
theorem dX8_line_19 : decode cX8_line 19 = .ok (.iconst 0, 1) := by decide +kernel
theorem dX8_line_20 : decode cX8_line 20 = .ok (.istore_n 2, 1) := by decide +kernel
theorem dX8_line_21 : decode cX8_line 21 = .ok (.iconst 0, 1) := by decide +kernel
theorem dX8_line_22 : decode cX8_line 22 = .ok (.istore_n 3, 1) := by decide +kernel
theorem dX8_line_23 : decode cX8_line 23 = .ok (.iload_n 3, 1) := by decide +kernel
theorem dX8_line_24 : decode cX8_line 24 = .ok (.aload_n 0, 1) := by decide +kernel
theorem dX8_line_25 : decode cX8_line 25 = .ok (.getfield 112, 3) := by decide +kernel
theorem dX8_line_28 : decode cX8_line 28 = .ok (.if_icmp .ge 26, 3) := by decide +kernel
theorem dX8_line_31 : decode cX8_line 31 = .ok (.iload_n 2, 1) := by decide +kernel
theorem dX8_line_32 : decode cX8_line 32 = .ok (.aload_n 0, 1) := by decide +kernel
theorem dX8_line_33 : decode cX8_line 33 = .ok (.iload_n 1, 1) := by decide +kernel
theorem dX8_line_34 : decode cX8_line 34 = .ok (.iload_n 3, 1) := by decide +kernel
theorem dX8_line_35 : decode cX8_line 35 = .ok (.invokevirtual 196, 3) := by decide +kernel
theorem dX8_line_38 : decode cX8_line 38 = .ok (.ifCond .eq 7, 3) := by decide +kernel
theorem dX8_line_41 : decode cX8_line 41 = .ok (.iconst 1, 1) := by decide +kernel
theorem dX8_line_42 : decode cX8_line 42 = .ok (.goto 4, 3) := by decide +kernel
theorem dX8_line_45 : decode cX8_line 45 = .ok (.iconst 0, 1) := by decide +kernel
theorem dX8_line_46 : decode cX8_line 46 = .ok (.iadd, 1) := by decide +kernel
theorem dX8_line_47 : decode cX8_line 47 = .ok (.istore_n 2, 1) := by decide +kernel
theorem dX8_line_48 : decode cX8_line 48 = .ok (.iinc 3 1, 3) := by decide +kernel
theorem dX8_line_51 : decode cX8_line 51 = .ok (.goto (-28), 3) := by decide +kernel
theorem dX8_line_54 : decode cX8_line 54 = .ok (.iload_n 2, 1) := by decide +kernel
theorem dX8_line_55 : decode cX8_line 55 = .ok (.ireturn, 1) := by decide +kernel
theorem dX8_sumOf_0 : decode cX8_sumOf 0 = .ok (.iconst 0, 1) := by decide +kernel
theorem dX8_sumOf_1 : decode cX8_sumOf 1 = .ok (.istore_n 2, 1) := by decide +kernel
theorem dX8_sumOf_2 : decode cX8_sumOf 2 = .ok (.iconst 0, 1) := by decide +kernel
theorem dX8_sumOf_3 : decode cX8_sumOf 3 = .ok (.istore_n 3, 1) := by decide +kernel
theorem dX8_sumOf_4 : decode cX8_sumOf 4 = .ok (.iload_n 3, 1) := by decide +kernel
theorem dX8_sumOf_5 : decode cX8_sumOf 5 = .ok (.bipush 6, 2) := by decide +kernel
theorem dX8_sumOf_7 : decode cX8_sumOf 7 = .ok (.if_icmp .ge 23, 3) := by decide +kernel
theorem dX8_sumOf_10 : decode cX8_sumOf 10 = .ok (.iload_n 2, 1) := by decide +kernel
theorem dX8_sumOf_11 : decode cX8_sumOf 11 = .ok (.aload_n 0, 1) := by decide +kernel
theorem dX8_sumOf_12 : decode cX8_sumOf 12 = .ok (.getfield 64, 3) := by decide +kernel
theorem dX8_sumOf_15 : decode cX8_sumOf 15 = .ok (.bipush 6, 2) := by decide +kernel
theorem dX8_sumOf_17 : decode cX8_sumOf 17 = .ok (.iload_n 1, 1) := by decide +kernel
theorem dX8_sumOf_18 : decode cX8_sumOf 18 = .ok (.imul, 1) := by decide +kernel
theorem dX8_sumOf_19 : decode cX8_sumOf 19 = .ok (.iload_n 3, 1) := by decide +kernel
theorem dX8_sumOf_20 : decode cX8_sumOf 20 = .ok (.iadd, 1) := by decide +kernel
theorem dX8_sumOf_21 : decode cX8_sumOf 21 = .ok (.iaload, 1) := by decide +kernel
theorem dX8_sumOf_22 : decode cX8_sumOf 22 = .ok (.iadd, 1) := by decide +kernel
theorem dX8_sumOf_23 : decode cX8_sumOf 23 = .ok (.istore_n 2, 1) := by decide +kernel
theorem dX8_sumOf_24 : decode cX8_sumOf 24 = .ok (.iinc 3 1, 3) := by decide +kernel
theorem dX8_sumOf_27 : decode cX8_sumOf 27 = .ok (.goto (-23), 3) := by decide +kernel
theorem dX8_sumOf_30 : decode cX8_sumOf 30 = .ok (.iload_n 2, 1) := by decide +kernel
theorem dX8_sumOf_31 : decode cX8_sumOf 31 = .ok (.ireturn, 1) := by decide +kernel
set_option maxRecDepth 20000 in
theorem ggX8_stars_X8_isWork : GoodIn wsX8_stars wsX8_isWork := goodIn_r _ [6, 7, 8, 9, 5, 10, 20, 21, 22, 23, 24, 25, 26, 27, 28, 29, 30, 31, 32, 33, 34, 35, 36, 37, 38, 39, 40, 41, 42, 43, 44, 45, 46, 47, 48, 49, 50, 51, 52, 53, 54, 55, 56, 57] (by decide +kernel) (by decide +kernel)
set_option maxRecDepth 20000 in
theorem gX8_stars_X8_isWork : GoodIn wsX8_stars (wsV RX8 190 RX8 yX8_isWork wsX8_isWork) := goodIn_app (goodIn_of _ (by decide +kernel)) ggX8_stars_X8_isWork
set_option maxRecDepth 20000 in
theorem ggX8_stars_X8_sumOf : GoodIn wsX8_stars wsX8_sumOf := goodIn_r _ [14, 15, 20, 21, 22, 23, 24, 25, 26, 27, 28, 29, 30, 31, 32, 33, 34, 35, 36, 37, 38, 39, 40, 41, 42, 43, 44, 45, 46, 47, 48, 49, 50, 51, 52, 53, 54, 55, 56, 57] (by decide +kernel) (by decide +kernel)
set_option maxRecDepth 20000 in
theorem gX8_stars_X8_sumOf : GoodIn wsX8_stars (wsV RX8 199 RX8 yX8_sumOf wsX8_sumOf) := goodIn_app (goodIn_of _ (by decide +kernel)) ggX8_stars_X8_sumOf
set_option maxRecDepth 20000 in
theorem ggX8_stars_X8_fails : GoodIn wsX8_stars wsX8_fails := goodIn_r _ [19, 1, 20, 21, 22, 23, 24, 25, 26, 27, 28, 29, 30, 31, 32, 33, 34, 35, 36, 37, 38, 39, 40, 41, 42, 43, 44, 45, 46, 47, 48, 49, 50, 51, 52, 53, 54, 55, 56, 57] (by decide +kernel) (by decide +kernel)
set_option maxRecDepth 20000 in
theorem gX8_stars_X8_fails : GoodIn wsX8_stars (wsV RX8 153 RX8 yX8_fails wsX8_fails) := goodIn_app (goodIn_of _ (by decide +kernel)) ggX8_stars_X8_fails
theorem dX8_stars_0 : decode cX8_stars 0 = .ok (.aload_n 0, 1) := by decide +kernel
theorem dX8_stars_1 : decode cX8_stars 1 = .ok (.iconst 0, 1) := by decide +kernel
theorem dX8_stars_2 : decode cX8_stars 2 = .ok (.putfield 101, 3) := by decide +kernel
theorem dX8_stars_5 : decode cX8_stars 5 = .ok (.aload_n 0, 1) := by decide +kernel
theorem dX8_stars_6 : decode cX8_stars 6 = .ok (.iload_n 1, 1) := by decide +kernel
theorem dX8_stars_7 : decode cX8_stars 7 = .ok (.invokevirtual 190, 3) := by decide +kernel
theorem dX8_stars_10 : decode cX8_stars 10 = .ok (.ifCond .eq 11, 3) := by decide +kernel
theorem dX8_stars_13 : decode cX8_stars 13 = .ok (.aload_n 0, 1) := by decide +kernel
theorem dX8_stars_14 : decode cX8_stars 14 = .ok (.iload_n 1, 1) := by decide +kernel
theorem dX8_stars_15 : decode cX8_stars 15 = .ok (.invokevirtual 199, 3) := by decide +kernel
theorem dX8_stars_18 : decode cX8_stars 18 = .ok (.goto 8, 3) := by decide +kernel
theorem dX8_stars_21 : decode cX8_stars 21 = .ok (.aload_n 0, 1) := by decide +kernel
theorem dX8_stars_22 : decode cX8_stars 22 = .ok (.iconst 1, 1) := by decide +kernel
theorem dX8_stars_23 : decode cX8_stars 23 = .ok (.invokevirtual 153, 3) := by decide +kernel
theorem dX8_stars_26 : decode cX8_stars 26 = .ok (.ireturn, 1) := by decide +kernel
set_option maxRecDepth 20000 in
theorem ggX8_credit_X8_isPerson : GoodIn wsX8_credit wsX8_isPerson := goodIn_r _ [8, 9, 10, 7, 11] (by decide +kernel) (by decide +kernel)
set_option maxRecDepth 20000 in
theorem gX8_credit_X8_isPerson : GoodIn wsX8_credit (va_wsS RX8 149 yX8_isPerson wsX8_isPerson) := goodIn_app (goodIn_of _ (by decide +kernel)) ggX8_credit_X8_isPerson
set_option maxRecDepth 20000 in
theorem ggX8_credit_X8_fails : GoodIn wsX8_credit wsX8_fails := goodIn_r _ [15, 1, 21, 22, 23, 24, 25, 26, 27, 28, 29, 30, 31, 32, 33, 34, 35, 36, 37, 38, 39, 40, 41, 42, 43, 44, 45, 46, 47, 48, 49, 50, 51, 52, 53, 54, 55, 56, 57, 58] (by decide +kernel) (by decide +kernel)
set_option maxRecDepth 20000 in
theorem gX8_credit_X8_fails : GoodIn wsX8_credit (wsV RX8 153 RX8 yX8_fails wsX8_fails) := goodIn_app (goodIn_of _ (by decide +kernel)) ggX8_credit_X8_fails
set_option maxRecDepth 20000 in
theorem ggX8_credit_X8_sumOf : GoodIn wsX8_credit wsX8_sumOf := goodIn_r _ [19, 20, 21, 22, 23, 24, 25, 26, 27, 28, 29, 30, 31, 32, 33, 34, 35, 36, 37, 38, 39, 40, 41, 42, 43, 44, 45, 46, 47, 48, 49, 50, 51, 52, 53, 54, 55, 56, 57, 58] (by decide +kernel) (by decide +kernel)
set_option maxRecDepth 20000 in
theorem gX8_credit_X8_sumOf : GoodIn wsX8_credit (wsV RX8 199 RX8 yX8_sumOf wsX8_sumOf) := goodIn_app (goodIn_of _ (by decide +kernel)) ggX8_credit_X8_sumOf
theorem dX8_credit_0 : decode cX8_credit 0 = .ok (.aload_n 0, 1) := by decide +kernel
theorem dX8_credit_1 : decode cX8_credit 1 = .ok (.iconst 0, 1) := by decide +kernel
theorem dX8_credit_2 : decode cX8_credit 2 = .ok (.putfield 101, 3) := by decide +kernel
theorem dX8_credit_5 : decode cX8_credit 5 = .ok (.iload_n 1, 1) := by decide +kernel
theorem dX8_credit_6 : decode cX8_credit 6 = .ok (.invokestatic 149, 3) := by decide +kernel
theorem dX8_credit_9 : decode cX8_credit 9 = .ok (.ifCond .ne 9, 3) := by decide +kernel
theorem dX8_credit_12 : decode cX8_credit 12 = .ok (.aload_n 0, 1) := by decide +kernel
theorem dX8_credit_13 : decode cX8_credit 13 = .ok (.iconst 1, 1) := by decide +kernel
theorem dX8_credit_14 : decode cX8_credit 14 = .ok (.invokevirtual 153, 3) := by decide +kernel
theorem dX8_credit_17 : decode cX8_credit 17 = .ok (.ireturn, 1) := by decide +kernel
theorem dX8_credit_18 : decode cX8_credit 18 = .ok (.iconst 0, 1) := by decide +kernel
theorem dX8_credit_19 : decode cX8_credit 19 = .ok (.istore_n 2, 1) := by decide +kernel
theorem dX8_credit_20 : decode cX8_credit 20 = .ok (.iconst 0, 1) := by decide +kernel
theorem dX8_credit_21 : decode cX8_credit 21 = .ok (.istore_n 3, 1) := by decide +kernel
theorem dX8_credit_22 : decode cX8_credit 22 = .ok (.iload_n 3, 1) := by decide +kernel
theorem dX8_credit_23 : decode cX8_credit 23 = .ok (.aload_n 0, 1) := by decide +kernel
theorem dX8_credit_24 : decode cX8_credit 24 = .ok (.getfield 112, 3) := by decide +kernel
theorem dX8_credit_27 : decode cX8_credit 27 = .ok (.if_icmp .ge 59, 3) := by decide +kernel
theorem dX8_credit_30 : decode cX8_credit 30 = .ok (.iload_n 3, 1) := by decide +kernel
theorem dX8_credit_31 : decode cX8_credit 31 = .ok (.istore 4, 2) := by decide +kernel
theorem dX8_credit_33 : decode cX8_credit 33 = .ok (.iload 4, 2) := by decide +kernel
theorem dX8_credit_35 : decode cX8_credit 35 = .ok (.iconst (-1), 1) := by decide +kernel
theorem dX8_credit_36 : decode cX8_credit 36 = .ok (.if_icmp .eq 26, 3) := by decide +kernel
theorem dX8_credit_39 : decode cX8_credit 39 = .ok (.aload_n 0, 1) := by decide +kernel
theorem dX8_credit_40 : decode cX8_credit 40 = .ok (.getfield 46, 3) := by decide +kernel
theorem dX8_credit_43 : decode cX8_credit 43 = .ok (.iload 4, 2) := by decide +kernel
theorem dX8_credit_45 : decode cX8_credit 45 = .ok (.iaload, 1) := by decide +kernel
theorem dX8_credit_46 : decode cX8_credit 46 = .ok (.iload_n 1, 1) := by decide +kernel
theorem dX8_credit_47 : decode cX8_credit 47 = .ok (.if_icmp .eq 15, 3) := by decide +kernel
theorem dX8_credit_50 : decode cX8_credit 50 = .ok (.aload_n 0, 1) := by decide +kernel
theorem dX8_credit_51 : decode cX8_credit 51 = .ok (.getfield 58, 3) := by decide +kernel
theorem dX8_credit_54 : decode cX8_credit 54 = .ok (.iload 4, 2) := by decide +kernel
theorem dX8_credit_56 : decode cX8_credit 56 = .ok (.iaload, 1) := by decide +kernel
theorem dX8_credit_57 : decode cX8_credit 57 = .ok (.istore 4, 2) := by decide +kernel
theorem dX8_credit_59 : decode cX8_credit 59 = .ok (.goto (-26), 3) := by decide +kernel
theorem dX8_credit_62 : decode cX8_credit 62 = .ok (.iload_n 2, 1) := by decide +kernel
theorem dX8_credit_63 : decode cX8_credit 63 = .ok (.iload 4, 2) := by decide +kernel
theorem dX8_credit_65 : decode cX8_credit 65 = .ok (.iconst (-1), 1) := by decide +kernel
theorem dX8_credit_66 : decode cX8_credit 66 = .ok (.if_icmp .eq 11, 3) := by decide +kernel
theorem dX8_credit_69 : decode cX8_credit 69 = .ok (.aload_n 0, 1) := by decide +kernel
theorem dX8_credit_70 : decode cX8_credit 70 = .ok (.iload_n 3, 1) := by decide +kernel
theorem dX8_credit_71 : decode cX8_credit 71 = .ok (.invokevirtual 199, 3) := by decide +kernel
theorem dX8_credit_74 : decode cX8_credit 74 = .ok (.goto 4, 3) := by decide +kernel
theorem dX8_credit_77 : decode cX8_credit 77 = .ok (.iconst 0, 1) := by decide +kernel
theorem dX8_credit_78 : decode cX8_credit 78 = .ok (.iadd, 1) := by decide +kernel
theorem dX8_credit_79 : decode cX8_credit 79 = .ok (.istore_n 2, 1) := by decide +kernel
theorem dX8_credit_80 : decode cX8_credit 80 = .ok (.iinc 3 1, 3) := by decide +kernel
theorem dX8_credit_83 : decode cX8_credit 83 = .ok (.goto (-61), 3) := by decide +kernel
theorem dX8_credit_86 : decode cX8_credit 86 = .ok (.iload_n 2, 1) := by decide +kernel
theorem dX8_credit_87 : decode cX8_credit 87 = .ok (.ireturn, 1) := by decide +kernel
set_option maxRecDepth 20000 in
theorem ggX8_record_X8_isWork : GoodIn wsX8_record wsX8_isWork := goodIn_r _ [7, 8, 9, 10, 6, 11, 16, 17, 18, 19, 20, 21, 22, 23, 24, 25, 26, 27, 28, 29, 30, 31, 32, 33, 34, 35, 36, 37, 38, 39, 40, 41, 42, 43, 44, 45, 46, 47, 48, 49, 50, 51, 52, 53] (by decide +kernel) (by decide +kernel)
set_option maxRecDepth 20000 in
theorem gX8_record_X8_isWork : GoodIn wsX8_record (wsV RX8 190 RX8 yX8_isWork wsX8_isWork) := goodIn_app (goodIn_of _ (by decide +kernel)) ggX8_record_X8_isWork
set_option maxRecDepth 20000 in
theorem ggX8_record_X8_fails : GoodIn wsX8_record wsX8_fails := goodIn_r _ [15, 1, 16, 17, 18, 19, 20, 21, 22, 23, 24, 25, 26, 27, 28, 29, 30, 31, 32, 33, 34, 35, 36, 37, 38, 39, 40, 41, 42, 43, 44, 45, 46, 47, 48, 49, 50, 51, 52, 53] (by decide +kernel) (by decide +kernel)
set_option maxRecDepth 20000 in
theorem gX8_record_X8_fails : GoodIn wsX8_record (wsV RX8 153 RX8 yX8_fails wsX8_fails) := goodIn_app (goodIn_of _ (by decide +kernel)) ggX8_record_X8_fails
theorem dX8_record_0 : decode cX8_record 0 = .ok (.aload_n 0, 1) := by decide +kernel
theorem dX8_record_1 : decode cX8_record 1 = .ok (.iconst 0, 1) := by decide +kernel
theorem dX8_record_2 : decode cX8_record 2 = .ok (.putfield 101, 3) := by decide +kernel
theorem dX8_record_5 : decode cX8_record 5 = .ok (.aload_n 0, 1) := by decide +kernel
theorem dX8_record_6 : decode cX8_record 6 = .ok (.iload_n 1, 1) := by decide +kernel
theorem dX8_record_7 : decode cX8_record 7 = .ok (.invokevirtual 190, 3) := by decide +kernel
theorem dX8_record_10 : decode cX8_record 10 = .ok (.ifCond .eq 12, 3) := by decide +kernel
theorem dX8_record_13 : decode cX8_record 13 = .ok (.aload_n 0, 1) := by decide +kernel
theorem dX8_record_14 : decode cX8_record 14 = .ok (.getfield 61, 3) := by decide +kernel
theorem dX8_record_17 : decode cX8_record 17 = .ok (.iload_n 1, 1) := by decide +kernel
theorem dX8_record_18 : decode cX8_record 18 = .ok (.iaload, 1) := by decide +kernel
theorem dX8_record_19 : decode cX8_record 19 = .ok (.goto 8, 3) := by decide +kernel
theorem dX8_record_22 : decode cX8_record 22 = .ok (.aload_n 0, 1) := by decide +kernel
theorem dX8_record_23 : decode cX8_record 23 = .ok (.iconst 1, 1) := by decide +kernel
theorem dX8_record_24 : decode cX8_record 24 = .ok (.invokevirtual 153, 3) := by decide +kernel
theorem dX8_record_27 : decode cX8_record 27 = .ok (.ireturn, 1) := by decide +kernel
set_option maxRecDepth 20000 in
theorem ggX8_runState_X8_isPerson : GoodIn wsX8_runState wsX8_isPerson := goodIn_r _ [6, 7, 8, 5, 9] (by decide +kernel) (by decide +kernel)
set_option maxRecDepth 20000 in
theorem gX8_runState_X8_isPerson : GoodIn wsX8_runState (va_wsS RX8 149 yX8_isPerson wsX8_isPerson) := goodIn_app (goodIn_of _ (by decide +kernel)) ggX8_runState_X8_isPerson
set_option maxRecDepth 20000 in
theorem ggX8_runState_X8_fails : GoodIn wsX8_runState wsX8_fails := goodIn_r _ [13, 1, 14, 15, 16, 17, 18, 19, 20, 21, 22, 23, 24, 25, 26, 27, 28, 29, 30, 31, 32, 33, 34, 35, 36, 37, 38, 39, 40, 41, 42, 43, 44, 45, 46, 47, 48, 49, 50, 51] (by decide +kernel) (by decide +kernel)
set_option maxRecDepth 20000 in
theorem gX8_runState_X8_fails : GoodIn wsX8_runState (wsV RX8 153 RX8 yX8_fails wsX8_fails) := goodIn_app (goodIn_of _ (by decide +kernel)) ggX8_runState_X8_fails
theorem dX8_runState_0 : decode cX8_runState 0 = .ok (.aload_n 0, 1) := by decide +kernel
theorem dX8_runState_1 : decode cX8_runState 1 = .ok (.iconst 0, 1) := by decide +kernel
theorem dX8_runState_2 : decode cX8_runState 2 = .ok (.putfield 101, 3) := by decide +kernel
theorem dX8_runState_5 : decode cX8_runState 5 = .ok (.iload_n 1, 1) := by decide +kernel
theorem dX8_runState_6 : decode cX8_runState 6 = .ok (.invokestatic 149, 3) := by decide +kernel
theorem dX8_runState_9 : decode cX8_runState 9 = .ok (.ifCond .eq 12, 3) := by decide +kernel
theorem dX8_runState_12 : decode cX8_runState 12 = .ok (.aload_n 0, 1) := by decide +kernel
theorem dX8_runState_13 : decode cX8_runState 13 = .ok (.getfield 67, 3) := by decide +kernel
theorem dX8_runState_16 : decode cX8_runState 16 = .ok (.iload_n 1, 1) := by decide +kernel
theorem dX8_runState_17 : decode cX8_runState 17 = .ok (.iaload, 1) := by decide +kernel
theorem dX8_runState_18 : decode cX8_runState 18 = .ok (.goto 8, 3) := by decide +kernel
theorem dX8_runState_21 : decode cX8_runState 21 = .ok (.aload_n 0, 1) := by decide +kernel
theorem dX8_runState_22 : decode cX8_runState 22 = .ok (.iconst 1, 1) := by decide +kernel
theorem dX8_runState_23 : decode cX8_runState 23 = .ok (.invokevirtual 153, 3) := by decide +kernel
theorem dX8_runState_26 : decode cX8_runState 26 = .ok (.ireturn, 1) := by decide +kernel
set_option maxRecDepth 20000 in
theorem ggX8_body_X8_isPerson : GoodIn wsX8_body wsX8_isPerson := goodIn_r _ [7, 8, 9, 6, 10] (by decide +kernel) (by decide +kernel)
set_option maxRecDepth 20000 in
theorem gX8_body_X8_isPerson : GoodIn wsX8_body (va_wsS RX8 149 yX8_isPerson wsX8_isPerson) := goodIn_app (goodIn_of _ (by decide +kernel)) ggX8_body_X8_isPerson
set_option maxRecDepth 20000 in
theorem ggX8_body_X8_fails : GoodIn wsX8_body wsX8_fails := goodIn_r _ [14, 1, 15, 16, 17, 18, 19, 20, 21, 22, 23, 24, 25, 26, 27, 28, 29, 30, 31, 32, 33, 34, 35, 36, 37, 38, 39, 40, 41, 42, 43, 44, 45, 46, 47, 48, 49, 50, 51, 52] (by decide +kernel) (by decide +kernel)
set_option maxRecDepth 20000 in
theorem gX8_body_X8_fails : GoodIn wsX8_body (wsV RX8 153 RX8 yX8_fails wsX8_fails) := goodIn_app (goodIn_of _ (by decide +kernel)) ggX8_body_X8_fails
theorem dX8_body_0 : decode cX8_body 0 = .ok (.aload_n 0, 1) := by decide +kernel
theorem dX8_body_1 : decode cX8_body 1 = .ok (.iconst 0, 1) := by decide +kernel
theorem dX8_body_2 : decode cX8_body 2 = .ok (.putfield 101, 3) := by decide +kernel
theorem dX8_body_5 : decode cX8_body 5 = .ok (.iload_n 1, 1) := by decide +kernel
theorem dX8_body_6 : decode cX8_body 6 = .ok (.invokestatic 149, 3) := by decide +kernel
theorem dX8_body_9 : decode cX8_body 9 = .ok (.ifCond .ne 9, 3) := by decide +kernel
theorem dX8_body_12 : decode cX8_body 12 = .ok (.aload_n 0, 1) := by decide +kernel
theorem dX8_body_13 : decode cX8_body 13 = .ok (.iconst 1, 1) := by decide +kernel
theorem dX8_body_14 : decode cX8_body 14 = .ok (.invokevirtual 153, 3) := by decide +kernel
theorem dX8_body_17 : decode cX8_body 17 = .ok (.ireturn, 1) := by decide +kernel
theorem dX8_body_18 : decode cX8_body 18 = .ok (.aload_n 0, 1) := by decide +kernel
theorem dX8_body_19 : decode cX8_body 19 = .ok (.getfield 67, 3) := by decide +kernel
theorem dX8_body_22 : decode cX8_body 22 = .ok (.iload_n 1, 1) := by decide +kernel
theorem dX8_body_23 : decode cX8_body 23 = .ok (.iaload, 1) := by decide +kernel
theorem dX8_body_24 : decode cX8_body 24 = .ok (.ifCond .ne 7, 3) := by decide +kernel
theorem dX8_body_27 : decode cX8_body 27 = .ok (.iconst (-1), 1) := by decide +kernel
theorem dX8_body_28 : decode cX8_body 28 = .ok (.goto 9, 3) := by decide +kernel
theorem dX8_body_31 : decode cX8_body 31 = .ok (.aload_n 0, 1) := by decide +kernel
theorem dX8_body_32 : decode cX8_body 32 = .ok (.getfield 73, 3) := by decide +kernel
theorem dX8_body_35 : decode cX8_body 35 = .ok (.iload_n 1, 1) := by decide +kernel
theorem dX8_body_36 : decode cX8_body 36 = .ok (.iaload, 1) := by decide +kernel
theorem dX8_body_37 : decode cX8_body 37 = .ok (.ireturn, 1) := by decide +kernel
set_option maxRecDepth 20000 in
theorem ggX8_speed_X8_isPerson : GoodIn wsX8_speed wsX8_isPerson := goodIn_r _ [6, 7, 8, 5, 9] (by decide +kernel) (by decide +kernel)
set_option maxRecDepth 20000 in
theorem gX8_speed_X8_isPerson : GoodIn wsX8_speed (va_wsS RX8 149 yX8_isPerson wsX8_isPerson) := goodIn_app (goodIn_of _ (by decide +kernel)) ggX8_speed_X8_isPerson
set_option maxRecDepth 20000 in
theorem ggX8_speed_X8_fails : GoodIn wsX8_speed wsX8_fails := goodIn_r _ [13, 1, 14, 15, 16, 17, 18, 19, 20, 21, 22, 23, 24, 25, 26, 27, 28, 29, 30, 31, 32, 33, 34, 35, 36, 37, 38, 39, 40, 41, 42, 43, 44, 45, 46, 47, 48, 49, 50, 51] (by decide +kernel) (by decide +kernel)
set_option maxRecDepth 20000 in
theorem gX8_speed_X8_fails : GoodIn wsX8_speed (wsV RX8 153 RX8 yX8_fails wsX8_fails) := goodIn_app (goodIn_of _ (by decide +kernel)) ggX8_speed_X8_fails
theorem dX8_speed_0 : decode cX8_speed 0 = .ok (.aload_n 0, 1) := by decide +kernel
theorem dX8_speed_1 : decode cX8_speed 1 = .ok (.iconst 0, 1) := by decide +kernel
theorem dX8_speed_2 : decode cX8_speed 2 = .ok (.putfield 101, 3) := by decide +kernel
theorem dX8_speed_5 : decode cX8_speed 5 = .ok (.iload_n 1, 1) := by decide +kernel
theorem dX8_speed_6 : decode cX8_speed 6 = .ok (.invokestatic 149, 3) := by decide +kernel
theorem dX8_speed_9 : decode cX8_speed 9 = .ok (.ifCond .eq 12, 3) := by decide +kernel
theorem dX8_speed_12 : decode cX8_speed 12 = .ok (.aload_n 0, 1) := by decide +kernel
theorem dX8_speed_13 : decode cX8_speed 13 = .ok (.getfield 76, 3) := by decide +kernel
theorem dX8_speed_16 : decode cX8_speed 16 = .ok (.iload_n 1, 1) := by decide +kernel
theorem dX8_speed_17 : decode cX8_speed 17 = .ok (.iaload, 1) := by decide +kernel
theorem dX8_speed_18 : decode cX8_speed 18 = .ok (.goto 8, 3) := by decide +kernel
theorem dX8_speed_21 : decode cX8_speed 21 = .ok (.aload_n 0, 1) := by decide +kernel
theorem dX8_speed_22 : decode cX8_speed 22 = .ok (.iconst 1, 1) := by decide +kernel
theorem dX8_speed_23 : decode cX8_speed 23 = .ok (.invokevirtual 153, 3) := by decide +kernel
theorem dX8_speed_26 : decode cX8_speed 26 = .ok (.ireturn, 1) := by decide +kernel
set_option maxRecDepth 20000 in
theorem ggX8_keys_X8_isPerson : GoodIn wsX8_keys wsX8_isPerson := goodIn_r _ [6, 7, 8, 5, 9] (by decide +kernel) (by decide +kernel)
set_option maxRecDepth 20000 in
theorem gX8_keys_X8_isPerson : GoodIn wsX8_keys (va_wsS RX8 149 yX8_isPerson wsX8_isPerson) := goodIn_app (goodIn_of _ (by decide +kernel)) ggX8_keys_X8_isPerson
set_option maxRecDepth 20000 in
theorem ggX8_keys_X8_fails : GoodIn wsX8_keys wsX8_fails := goodIn_r _ [13, 1, 14, 15, 16, 17, 18, 19, 20, 21, 22, 23, 24, 25, 26, 27, 28, 29, 30, 31, 32, 33, 34, 35, 36, 37, 38, 39, 40, 41, 42, 43, 44, 45, 46, 47, 48, 49, 50, 51] (by decide +kernel) (by decide +kernel)
set_option maxRecDepth 20000 in
theorem gX8_keys_X8_fails : GoodIn wsX8_keys (wsV RX8 153 RX8 yX8_fails wsX8_fails) := goodIn_app (goodIn_of _ (by decide +kernel)) ggX8_keys_X8_fails
theorem dX8_keys_0 : decode cX8_keys 0 = .ok (.aload_n 0, 1) := by decide +kernel
theorem dX8_keys_1 : decode cX8_keys 1 = .ok (.iconst 0, 1) := by decide +kernel
theorem dX8_keys_2 : decode cX8_keys 2 = .ok (.putfield 101, 3) := by decide +kernel
theorem dX8_keys_5 : decode cX8_keys 5 = .ok (.iload_n 1, 1) := by decide +kernel
theorem dX8_keys_6 : decode cX8_keys 6 = .ok (.invokestatic 149, 3) := by decide +kernel
theorem dX8_keys_9 : decode cX8_keys 9 = .ok (.ifCond .ne 9, 3) := by decide +kernel
theorem dX8_keys_12 : decode cX8_keys 12 = .ok (.aload_n 0, 1) := by decide +kernel
theorem dX8_keys_13 : decode cX8_keys 13 = .ok (.iconst 1, 1) := by decide +kernel
theorem dX8_keys_14 : decode cX8_keys 14 = .ok (.invokevirtual 153, 3) := by decide +kernel
theorem dX8_keys_17 : decode cX8_keys 17 = .ok (.ireturn, 1) := by decide +kernel
theorem dX8_keys_18 : decode cX8_keys 18 = .ok (.aload_n 0, 1) := by decide +kernel
theorem dX8_keys_19 : decode cX8_keys 19 = .ok (.getfield 79, 3) := by decide +kernel
theorem dX8_keys_22 : decode cX8_keys 22 = .ok (.iload_n 1, 1) := by decide +kernel
theorem dX8_keys_23 : decode cX8_keys 23 = .ok (.iaload, 1) := by decide +kernel
theorem dX8_keys_24 : decode cX8_keys 24 = .ok (.iconst 1, 1) := by decide +kernel
theorem dX8_keys_25 : decode cX8_keys 25 = .ok (.iand, 1) := by decide +kernel
theorem dX8_keys_26 : decode cX8_keys 26 = .ok (.aload_n 0, 1) := by decide +kernel
theorem dX8_keys_27 : decode cX8_keys 27 = .ok (.getfield 79, 3) := by decide +kernel
theorem dX8_keys_30 : decode cX8_keys 30 = .ok (.iload_n 1, 1) := by decide +kernel
theorem dX8_keys_31 : decode cX8_keys 31 = .ok (.iaload, 1) := by decide +kernel
theorem dX8_keys_32 : decode cX8_keys 32 = .ok (.iconst 1, 1) := by decide +kernel
theorem dX8_keys_33 : decode cX8_keys 33 = .ok (.ishr, 1) := by decide +kernel
theorem dX8_keys_34 : decode cX8_keys 34 = .ok (.iconst 1, 1) := by decide +kernel
theorem dX8_keys_35 : decode cX8_keys 35 = .ok (.iand, 1) := by decide +kernel
theorem dX8_keys_36 : decode cX8_keys 36 = .ok (.iadd, 1) := by decide +kernel
theorem dX8_keys_37 : decode cX8_keys 37 = .ok (.aload_n 0, 1) := by decide +kernel
theorem dX8_keys_38 : decode cX8_keys 38 = .ok (.getfield 79, 3) := by decide +kernel
theorem dX8_keys_41 : decode cX8_keys 41 = .ok (.iload_n 1, 1) := by decide +kernel
theorem dX8_keys_42 : decode cX8_keys 42 = .ok (.iaload, 1) := by decide +kernel
theorem dX8_keys_43 : decode cX8_keys 43 = .ok (.iconst 2, 1) := by decide +kernel
theorem dX8_keys_44 : decode cX8_keys 44 = .ok (.ishr, 1) := by decide +kernel
theorem dX8_keys_45 : decode cX8_keys 45 = .ok (.iconst 1, 1) := by decide +kernel
theorem dX8_keys_46 : decode cX8_keys 46 = .ok (.iand, 1) := by decide +kernel
theorem dX8_keys_47 : decode cX8_keys 47 = .ok (.iadd, 1) := by decide +kernel
theorem dX8_keys_48 : decode cX8_keys 48 = .ok (.ireturn, 1) := by decide +kernel
set_option maxRecDepth 20000 in
theorem ggX8_stepsOf_X8_isPerson : GoodIn wsX8_stepsOf wsX8_isPerson := goodIn_r _ [6, 7, 8, 5, 9] (by decide +kernel) (by decide +kernel)
set_option maxRecDepth 20000 in
theorem gX8_stepsOf_X8_isPerson : GoodIn wsX8_stepsOf (va_wsS RX8 149 yX8_isPerson wsX8_isPerson) := goodIn_app (goodIn_of _ (by decide +kernel)) ggX8_stepsOf_X8_isPerson
set_option maxRecDepth 20000 in
theorem ggX8_stepsOf_X8_fails : GoodIn wsX8_stepsOf wsX8_fails := goodIn_r _ [13, 1, 14, 15, 16, 17, 18, 19, 20, 21, 22, 23, 24, 25, 26, 27, 28, 29, 30, 31, 32, 33, 34, 35, 36, 37, 38, 39, 40, 41, 42, 43, 44, 45, 46, 47, 48, 49, 50, 51] (by decide +kernel) (by decide +kernel)
set_option maxRecDepth 20000 in
theorem gX8_stepsOf_X8_fails : GoodIn wsX8_stepsOf (wsV RX8 153 RX8 yX8_fails wsX8_fails) := goodIn_app (goodIn_of _ (by decide +kernel)) ggX8_stepsOf_X8_fails
theorem dX8_stepsOf_0 : decode cX8_stepsOf 0 = .ok (.aload_n 0, 1) := by decide +kernel
theorem dX8_stepsOf_1 : decode cX8_stepsOf 1 = .ok (.iconst 0, 1) := by decide +kernel
theorem dX8_stepsOf_2 : decode cX8_stepsOf 2 = .ok (.putfield 101, 3) := by decide +kernel
theorem dX8_stepsOf_5 : decode cX8_stepsOf 5 = .ok (.iload_n 1, 1) := by decide +kernel
theorem dX8_stepsOf_6 : decode cX8_stepsOf 6 = .ok (.invokestatic 149, 3) := by decide +kernel
theorem dX8_stepsOf_9 : decode cX8_stepsOf 9 = .ok (.ifCond .eq 12, 3) := by decide +kernel
theorem dX8_stepsOf_12 : decode cX8_stepsOf 12 = .ok (.aload_n 0, 1) := by decide +kernel
theorem dX8_stepsOf_13 : decode cX8_stepsOf 13 = .ok (.getfield 82, 3) := by decide +kernel
theorem dX8_stepsOf_16 : decode cX8_stepsOf 16 = .ok (.iload_n 1, 1) := by decide +kernel
theorem dX8_stepsOf_17 : decode cX8_stepsOf 17 = .ok (.iaload, 1) := by decide +kernel
theorem dX8_stepsOf_18 : decode cX8_stepsOf 18 = .ok (.goto 8, 3) := by decide +kernel
theorem dX8_stepsOf_21 : decode cX8_stepsOf 21 = .ok (.aload_n 0, 1) := by decide +kernel
theorem dX8_stepsOf_22 : decode cX8_stepsOf 22 = .ok (.iconst 1, 1) := by decide +kernel
theorem dX8_stepsOf_23 : decode cX8_stepsOf 23 = .ok (.invokevirtual 153, 3) := by decide +kernel
theorem dX8_stepsOf_26 : decode cX8_stepsOf 26 = .ok (.ireturn, 1) := by decide +kernel
