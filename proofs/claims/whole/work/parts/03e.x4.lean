theorem dX4_init_0 : decode cX4_init 0 = .ok (.aload_n 0, 1) := by decide +kernel
theorem dX4_init_1 : decode cX4_init 1 = .ok (.invokespecial 1, 3) := by decide +kernel
theorem dX4_init_4 : decode cX4_init 4 = .ok (.aload_n 0, 1) := by decide +kernel
theorem dX4_init_5 : decode cX4_init 5 = .ok (.bipush 8, 2) := by decide +kernel
theorem dX4_init_7 : decode cX4_init 7 = .ok (.newarray .int, 2) := by decide +kernel
theorem dX4_init_9 : decode cX4_init 9 = .ok (.putfield 7, 3) := by decide +kernel
theorem dX4_init_12 : decode cX4_init 12 = .ok (.aload_n 0, 1) := by decide +kernel
theorem dX4_init_13 : decode cX4_init 13 = .ok (.bipush 8, 2) := by decide +kernel
theorem dX4_init_15 : decode cX4_init 15 = .ok (.newarray .int, 2) := by decide +kernel
theorem dX4_init_17 : decode cX4_init 17 = .ok (.putfield 13, 3) := by decide +kernel
theorem dX4_init_20 : decode cX4_init 20 = .ok (.aload_n 0, 1) := by decide +kernel
theorem dX4_init_21 : decode cX4_init 21 = .ok (.bipush 8, 2) := by decide +kernel
theorem dX4_init_23 : decode cX4_init 23 = .ok (.newarray .int, 2) := by decide +kernel
theorem dX4_init_25 : decode cX4_init 25 = .ok (.putfield 16, 3) := by decide +kernel
theorem dX4_init_28 : decode cX4_init 28 = .ok (.aload_n 0, 1) := by decide +kernel
theorem dX4_init_29 : decode cX4_init 29 = .ok (.bipush 8, 2) := by decide +kernel
theorem dX4_init_31 : decode cX4_init 31 = .ok (.newarray .int, 2) := by decide +kernel
theorem dX4_init_33 : decode cX4_init 33 = .ok (.putfield 19, 3) := by decide +kernel
theorem dX4_init_36 : decode cX4_init 36 = .ok (.aload_n 0, 1) := by decide +kernel
theorem dX4_init_37 : decode cX4_init 37 = .ok (.bipush 8, 2) := by decide +kernel
theorem dX4_init_39 : decode cX4_init 39 = .ok (.newarray .int, 2) := by decide +kernel
theorem dX4_init_41 : decode cX4_init 41 = .ok (.putfield 22, 3) := by decide +kernel
theorem dX4_init_44 : decode cX4_init 44 = .ok (.aload_n 0, 1) := by decide +kernel
theorem dX4_init_45 : decode cX4_init 45 = .ok (.bipush 8, 2) := by decide +kernel
theorem dX4_init_47 : decode cX4_init 47 = .ok (.newarray .int, 2) := by decide +kernel
theorem dX4_init_49 : decode cX4_init 49 = .ok (.putfield 25, 3) := by decide +kernel
theorem dX4_init_52 : decode cX4_init 52 = .ok (.aload_n 0, 1) := by decide +kernel
theorem dX4_init_53 : decode cX4_init 53 = .ok (.bipush 8, 2) := by decide +kernel
theorem dX4_init_55 : decode cX4_init 55 = .ok (.newarray .int, 2) := by decide +kernel
theorem dX4_init_57 : decode cX4_init 57 = .ok (.putfield 28, 3) := by decide +kernel
theorem dX4_init_60 : decode cX4_init 60 = .ok (.aload_n 0, 1) := by decide +kernel
theorem dX4_init_61 : decode cX4_init 61 = .ok (.bipush 8, 2) := by decide +kernel
theorem dX4_init_63 : decode cX4_init 63 = .ok (.newarray .int, 2) := by decide +kernel
theorem dX4_init_65 : decode cX4_init 65 = .ok (.putfield 31, 3) := by decide +kernel
theorem dX4_init_68 : decode cX4_init 68 = .ok (.aload_n 0, 1) := by decide +kernel
theorem dX4_init_69 : decode cX4_init 69 = .ok (.bipush 8, 2) := by decide +kernel
theorem dX4_init_71 : decode cX4_init 71 = .ok (.newarray .int, 2) := by decide +kernel
theorem dX4_init_73 : decode cX4_init 73 = .ok (.putfield 34, 3) := by decide +kernel
theorem dX4_init_76 : decode cX4_init 76 = .ok (.aload_n 0, 1) := by decide +kernel
theorem dX4_init_77 : decode cX4_init 77 = .ok (.bipush 8, 2) := by decide +kernel
theorem dX4_init_79 : decode cX4_init 79 = .ok (.newarray .int, 2) := by decide +kernel
theorem dX4_init_81 : decode cX4_init 81 = .ok (.putfield 37, 3) := by decide +kernel
theorem dX4_init_84 : decode cX4_init 84 = .ok (.aload_n 0, 1) := by decide +kernel
theorem dX4_init_85 : decode cX4_init 85 = .ok (.bipush 8, 2) := by decide +kernel
theorem dX4_init_87 : decode cX4_init 87 = .ok (.newarray .int, 2) := by decide +kernel
theorem dX4_init_89 : decode cX4_init 89 = .ok (.putfield 40, 3) := by decide +kernel
theorem dX4_init_92 : decode cX4_init 92 = .ok (.aload_n 0, 1) := by decide +kernel
theorem dX4_init_93 : decode cX4_init 93 = .ok (.bipush 8, 2) := by decide +kernel
theorem dX4_init_95 : decode cX4_init 95 = .ok (.newarray .int, 2) := by decide +kernel
theorem dX4_init_97 : decode cX4_init 97 = .ok (.putfield 43, 3) := by decide +kernel
theorem dX4_init_100 : decode cX4_init 100 = .ok (.aload_n 0, 1) := by decide +kernel
theorem dX4_init_101 : decode cX4_init 101 = .ok (.bipush 8, 2) := by decide +kernel
theorem dX4_init_103 : decode cX4_init 103 = .ok (.newarray .int, 2) := by decide +kernel
theorem dX4_init_105 : decode cX4_init 105 = .ok (.putfield 46, 3) := by decide +kernel
theorem dX4_init_108 : decode cX4_init 108 = .ok (.aload_n 0, 1) := by decide +kernel
theorem dX4_init_109 : decode cX4_init 109 = .ok (.bipush 8, 2) := by decide +kernel
theorem dX4_init_111 : decode cX4_init 111 = .ok (.newarray .boolean, 2) := by decide +kernel
theorem dX4_init_113 : decode cX4_init 113 = .ok (.putfield 49, 3) := by decide +kernel
theorem dX4_init_116 : decode cX4_init 116 = .ok (.aload_n 0, 1) := by decide +kernel
theorem dX4_init_117 : decode cX4_init 117 = .ok (.bipush 8, 2) := by decide +kernel
theorem dX4_init_119 : decode cX4_init 119 = .ok (.newarray .int, 2) := by decide +kernel
theorem dX4_init_121 : decode cX4_init 121 = .ok (.putfield 53, 3) := by decide +kernel
theorem dX4_init_124 : decode cX4_init 124 = .ok (.aload_n 0, 1) := by decide +kernel
theorem dX4_init_125 : decode cX4_init 125 = .ok (.bipush 8, 2) := by decide +kernel
theorem dX4_init_127 : decode cX4_init 127 = .ok (.newarray .boolean, 2) := by decide +kernel
theorem dX4_init_129 : decode cX4_init 129 = .ok (.putfield 56, 3) := by decide +kernel
theorem dX4_init_132 : decode cX4_init 132 = .ok (.aload_n 0, 1) := by decide +kernel
theorem dX4_init_133 : decode cX4_init 133 = .ok (.bipush 8, 2) := by decide +kernel
theorem dX4_init_135 : decode cX4_init 135 = .ok (.newarray .int, 2) := by decide +kernel
theorem dX4_init_137 : decode cX4_init 137 = .ok (.putfield 59, 3) := by decide +kernel
theorem dX4_init_140 : decode cX4_init 140 = .ok (.aload_n 0, 1) := by decide +kernel
theorem dX4_init_141 : decode cX4_init 141 = .ok (.bipush 8, 2) := by decide +kernel
theorem dX4_init_143 : decode cX4_init 143 = .ok (.newarray .boolean, 2) := by decide +kernel
theorem dX4_init_145 : decode cX4_init 145 = .ok (.putfield 62, 3) := by decide +kernel
theorem dX4_init_148 : decode cX4_init 148 = .ok (.aload_n 0, 1) := by decide +kernel
theorem dX4_init_149 : decode cX4_init 149 = .ok (.bipush 64, 2) := by decide +kernel
theorem dX4_init_151 : decode cX4_init 151 = .ok (.newarray .int, 2) := by decide +kernel
theorem dX4_init_153 : decode cX4_init 153 = .ok (.putfield 65, 3) := by decide +kernel
theorem dX4_init_156 : decode cX4_init 156 = .ok (.aload_n 0, 1) := by decide +kernel
theorem dX4_init_157 : decode cX4_init 157 = .ok (.bipush 64, 2) := by decide +kernel
theorem dX4_init_159 : decode cX4_init 159 = .ok (.newarray .int, 2) := by decide +kernel
theorem dX4_init_161 : decode cX4_init 161 = .ok (.putfield 68, 3) := by decide +kernel
theorem dX4_init_164 : decode cX4_init 164 = .ok (.aload_n 0, 1) := by decide +kernel
theorem dX4_init_165 : decode cX4_init 165 = .ok (.bipush 64, 2) := by decide +kernel
theorem dX4_init_167 : decode cX4_init 167 = .ok (.newarray .int, 2) := by decide +kernel
theorem dX4_init_169 : decode cX4_init 169 = .ok (.putfield 71, 3) := by decide +kernel
theorem dX4_init_172 : decode cX4_init 172 = .ok (.aload_n 0, 1) := by decide +kernel
theorem dX4_init_173 : decode cX4_init 173 = .ok (.bipush 64, 2) := by decide +kernel
theorem dX4_init_175 : decode cX4_init 175 = .ok (.newarray .int, 2) := by decide +kernel
theorem dX4_init_177 : decode cX4_init 177 = .ok (.putfield 74, 3) := by decide +kernel
theorem dX4_init_180 : decode cX4_init 180 = .ok (.aload_n 0, 1) := by decide +kernel
theorem dX4_init_181 : decode cX4_init 181 = .ok (.bipush 64, 2) := by decide +kernel
theorem dX4_init_183 : decode cX4_init 183 = .ok (.newarray .int, 2) := by decide +kernel
theorem dX4_init_185 : decode cX4_init 185 = .ok (.putfield 77, 3) := by decide +kernel
theorem dX4_init_188 : decode cX4_init 188 = .ok (.aload_n 0, 1) := by decide +kernel
theorem dX4_init_189 : decode cX4_init 189 = .ok (.bipush 64, 2) := by decide +kernel
theorem dX4_init_191 : decode cX4_init 191 = .ok (.newarray .int, 2) := by decide +kernel
theorem dX4_init_193 : decode cX4_init 193 = .ok (.putfield 80, 3) := by decide +kernel
theorem dX4_init_196 : decode cX4_init 196 = .ok (.aload_n 0, 1) := by decide +kernel
theorem dX4_init_197 : decode cX4_init 197 = .ok (.iconst 3, 1) := by decide +kernel
theorem dX4_init_198 : decode cX4_init 198 = .ok (.putfield 83, 3) := by decide +kernel
theorem dX4_init_201 : decode cX4_init 201 = .ok (.aload_n 0, 1) := by decide +kernel
theorem dX4_init_202 : decode cX4_init 202 = .ok (.bipush 6, 2) := by decide +kernel
theorem dX4_init_204 : decode cX4_init 204 = .ok (.putfield 87, 3) := by decide +kernel
theorem dX4_init_207 : decode cX4_init 207 = .ok (.iconst 0, 1) := by decide +kernel
theorem dX4_init_208 : decode cX4_init 208 = .ok (.istore_n 1, 1) := by decide +kernel
theorem dX4_init_209 : decode cX4_init 209 = .ok (.iload_n 1, 1) := by decide +kernel
theorem dX4_init_210 : decode cX4_init 210 = .ok (.bipush 8, 2) := by decide +kernel
theorem dX4_init_212 : decode cX4_init 212 = .ok (.if_icmp .ge 63, 3) := by decide +kernel
theorem dX4_init_215 : decode cX4_init 215 = .ok (.aload_n 0, 1) := by decide +kernel
theorem dX4_init_216 : decode cX4_init 216 = .ok (.getfield 7, 3) := by decide +kernel
theorem dX4_init_219 : decode cX4_init 219 = .ok (.iload_n 1, 1) := by decide +kernel
theorem dX4_init_220 : decode cX4_init 220 = .ok (.bipush 10, 2) := by decide +kernel
theorem dX4_init_222 : decode cX4_init 222 = .ok (.iastore, 1) := by decide +kernel
theorem dX4_init_223 : decode cX4_init 223 = .ok (.aload_n 0, 1) := by decide +kernel
theorem dX4_init_224 : decode cX4_init 224 = .ok (.getfield 13, 3) := by decide +kernel
theorem dX4_init_227 : decode cX4_init 227 = .ok (.iload_n 1, 1) := by decide +kernel
theorem dX4_init_228 : decode cX4_init 228 = .ok (.bipush 100, 2) := by decide +kernel
theorem dX4_init_230 : decode cX4_init 230 = .ok (.iastore, 1) := by decide +kernel
theorem dX4_init_231 : decode cX4_init 231 = .ok (.aload_n 0, 1) := by decide +kernel
theorem dX4_init_232 : decode cX4_init 232 = .ok (.getfield 22, 3) := by decide +kernel
theorem dX4_init_235 : decode cX4_init 235 = .ok (.iload_n 1, 1) := by decide +kernel
theorem dX4_init_236 : decode cX4_init 236 = .ok (.iconst 5, 1) := by decide +kernel
theorem dX4_init_237 : decode cX4_init 237 = .ok (.iastore, 1) := by decide +kernel
theorem dX4_init_238 : decode cX4_init 238 = .ok (.aload_n 0, 1) := by decide +kernel
theorem dX4_init_239 : decode cX4_init 239 = .ok (.getfield 37, 3) := by decide +kernel
theorem dX4_init_242 : decode cX4_init 242 = .ok (.iload_n 1, 1) := by decide +kernel
theorem dX4_init_243 : decode cX4_init 243 = .ok (.bipush 20, 2) := by decide +kernel
theorem dX4_init_245 : decode cX4_init 245 = .ok (.iastore, 1) := by decide +kernel
theorem dX4_init_246 : decode cX4_init 246 = .ok (.aload_n 0, 1) := by decide +kernel
theorem dX4_init_247 : decode cX4_init 247 = .ok (.getfield 40, 3) := by decide +kernel
theorem dX4_init_250 : decode cX4_init 250 = .ok (.iload_n 1, 1) := by decide +kernel
theorem dX4_init_251 : decode cX4_init 251 = .ok (.bipush 40, 2) := by decide +kernel
theorem dX4_init_253 : decode cX4_init 253 = .ok (.iastore, 1) := by decide +kernel
theorem dX4_init_254 : decode cX4_init 254 = .ok (.aload_n 0, 1) := by decide +kernel
theorem dX4_init_255 : decode cX4_init 255 = .ok (.getfield 43, 3) := by decide +kernel
theorem dX4_init_258 : decode cX4_init 258 = .ok (.iload_n 1, 1) := by decide +kernel
theorem dX4_init_259 : decode cX4_init 259 = .ok (.bipush 80, 2) := by decide +kernel
theorem dX4_init_261 : decode cX4_init 261 = .ok (.iastore, 1) := by decide +kernel
theorem dX4_init_262 : decode cX4_init 262 = .ok (.aload_n 0, 1) := by decide +kernel
theorem dX4_init_263 : decode cX4_init 263 = .ok (.getfield 46, 3) := by decide +kernel
theorem dX4_init_266 : decode cX4_init 266 = .ok (.iload_n 1, 1) := by decide +kernel
theorem dX4_init_267 : decode cX4_init 267 = .ok (.iconst 5, 1) := by decide +kernel
theorem dX4_init_268 : decode cX4_init 268 = .ok (.iastore, 1) := by decide +kernel
theorem dX4_init_269 : decode cX4_init 269 = .ok (.iinc 1 1, 3) := by decide +kernel
theorem dX4_init_272 : decode cX4_init 272 = .ok (.goto (-63), 3) := by decide +kernel
theorem dX4_init_275 : decode cX4_init 275 = .ok (.return_, 1) := by decide +kernel
theorem dX4_thrown_0 : decode cX4_thrown 0 = .ok (.aload_n 0, 1) := by decide +kernel
theorem dX4_thrown_1 : decode cX4_thrown 1 = .ok (.getfield 90, 3) := by decide +kernel
theorem dX4_thrown_4 : decode cX4_thrown 4 = .ok (.ireturn, 1) := by decide +kernel
theorem dX4_goes_0 : decode cX4_goes 0 = .ok (.aload_n 0, 1) := by decide +kernel
theorem dX4_goes_1 : decode cX4_goes 1 = .ok (.iload_n 1, 1) := by decide +kernel
theorem dX4_goes_2 : decode cX4_goes 2 = .ok (.putfield 90, 3) := by decide +kernel
theorem dX4_goes_5 : decode cX4_goes 5 = .ok (.iload_n 1, 1) := by decide +kernel
theorem dX4_goes_6 : decode cX4_goes 6 = .ok (.ifCond .ne 7, 3) := by decide +kernel
theorem dX4_goes_9 : decode cX4_goes 9 = .ok (.iconst 1, 1) := by decide +kernel
theorem dX4_goes_10 : decode cX4_goes 10 = .ok (.goto 4, 3) := by decide +kernel
theorem dX4_goes_13 : decode cX4_goes 13 = .ok (.iconst 0, 1) := by decide +kernel
theorem dX4_goes_14 : decode cX4_goes 14 = .ok (.ireturn, 1) := by decide +kernel
theorem dX4_isIn_0 : decode cX4_isIn 0 = .ok (.iload_n 0, 1) := by decide +kernel
theorem dX4_isIn_1 : decode cX4_isIn 1 = .ok (.iload_n 1, 1) := by decide +kernel
theorem dX4_isIn_2 : decode cX4_isIn 2 = .ok (.if_icmp .lt 12, 3) := by decide +kernel
theorem dX4_isIn_5 : decode cX4_isIn 5 = .ok (.iload_n 0, 1) := by decide +kernel
theorem dX4_isIn_6 : decode cX4_isIn 6 = .ok (.iload_n 2, 1) := by decide +kernel
theorem dX4_isIn_7 : decode cX4_isIn 7 = .ok (.if_icmp .gt 7, 3) := by decide +kernel
theorem dX4_isIn_10 : decode cX4_isIn 10 = .ok (.iconst 1, 1) := by decide +kernel
theorem dX4_isIn_11 : decode cX4_isIn 11 = .ok (.goto 4, 3) := by decide +kernel
theorem dX4_isIn_14 : decode cX4_isIn 14 = .ok (.iconst 0, 1) := by decide +kernel
theorem dX4_isIn_15 : decode cX4_isIn 15 = .ok (.ireturn, 1) := by decide +kernel
set_option maxRecDepth 20000 in
theorem ggX4_isOne_X4_isIn : GoodIn wsX4_isOne wsX4_isIn := goodIn_r _ [4] (by decide +kernel) (by decide +kernel)
set_option maxRecDepth 20000 in
theorem gX4_isOne_X4_isIn : GoodIn wsX4_isOne (va_wsS RX4 93 yX4_isIn wsX4_isIn) := goodIn_app (goodIn_of _ (by decide +kernel)) ggX4_isOne_X4_isIn
theorem dX4_isOne_0 : decode cX4_isOne 0 = .ok (.iload_n 0, 1) := by decide +kernel
theorem dX4_isOne_1 : decode cX4_isOne 1 = .ok (.iconst 0, 1) := by decide +kernel
theorem dX4_isOne_2 : decode cX4_isOne 2 = .ok (.bipush 7, 2) := by decide +kernel
theorem dX4_isOne_4 : decode cX4_isOne 4 = .ok (.invokestatic 93, 3) := by decide +kernel
theorem dX4_isOne_7 : decode cX4_isOne 7 = .ok (.ireturn, 1) := by decide +kernel
set_option maxRecDepth 20000 in
theorem ggX4_asks_X4_isOne : GoodIn wsX4_asks wsX4_isOne := goodIn_r _ [4, 5, 6, 3, 7] (by decide +kernel) (by decide +kernel)
set_option maxRecDepth 20000 in
theorem gX4_asks_X4_isOne : GoodIn wsX4_asks (va_wsS RX4 97 yX4_isOne wsX4_isOne) := goodIn_app (goodIn_of _ (by decide +kernel)) ggX4_asks_X4_isOne
set_option maxRecDepth 20000 in
theorem ggX4_asks_X4_goes : GoodIn wsX4_asks wsX4_goes := goodIn_r _ [11, 12, 13, 14, 15, 16, 17, 18, 19, 20, 21, 22, 23, 24, 25, 26, 27, 28, 29, 30, 31, 32, 33, 34, 35, 36, 37, 38, 39, 40, 41, 42] (by decide +kernel) (by decide +kernel)
set_option maxRecDepth 20000 in
theorem gX4_asks_X4_goes : GoodIn wsX4_asks (wsV RX4 101 RX4 yX4_goes wsX4_goes) := goodIn_app (goodIn_of _ (by decide +kernel)) ggX4_asks_X4_goes
theorem dX4_asks_0 : decode cX4_asks 0 = .ok (.aload_n 0, 1) := by decide +kernel
theorem dX4_asks_1 : decode cX4_asks 1 = .ok (.iload_n 1, 1) := by decide +kernel
theorem dX4_asks_2 : decode cX4_asks 2 = .ok (.invokestatic 97, 3) := by decide +kernel
theorem dX4_asks_5 : decode cX4_asks 5 = .ok (.ifCond .eq 7, 3) := by decide +kernel
theorem dX4_asks_8 : decode cX4_asks 8 = .ok (.iconst 0, 1) := by decide +kernel
theorem dX4_asks_9 : decode cX4_asks 9 = .ok (.goto 4, 3) := by decide +kernel
theorem dX4_asks_12 : decode cX4_asks 12 = .ok (.iconst 1, 1) := by decide +kernel
theorem dX4_asks_13 : decode cX4_asks 13 = .ok (.invokevirtual 101, 3) := by decide +kernel
theorem dX4_asks_16 : decode cX4_asks 16 = .ok (.ireturn, 1) := by decide +kernel
set_option maxRecDepth 20000 in
theorem ggX4_ask_X4_isOne : GoodIn wsX4_ask wsX4_isOne := goodIn_r _ [4, 5, 6, 3, 7] (by decide +kernel) (by decide +kernel)
set_option maxRecDepth 20000 in
theorem gX4_ask_X4_isOne : GoodIn wsX4_ask (va_wsS RX4 97 yX4_isOne wsX4_isOne) := goodIn_app (goodIn_of _ (by decide +kernel)) ggX4_ask_X4_isOne
set_option maxRecDepth 20000 in
theorem ggX4_ask_X4_goes : GoodIn wsX4_ask wsX4_goes := goodIn_r _ [11, 12, 13, 14, 15, 16, 17, 18, 19, 20, 21, 22, 23, 24, 25, 26, 27, 28, 29, 30, 31, 32, 33, 34, 35, 36, 37, 38, 39, 40, 41, 42] (by decide +kernel) (by decide +kernel)
set_option maxRecDepth 20000 in
theorem gX4_ask_X4_goes : GoodIn wsX4_ask (wsV RX4 101 RX4 yX4_goes wsX4_goes) := goodIn_app (goodIn_of _ (by decide +kernel)) ggX4_ask_X4_goes
theorem dX4_ask_0 : decode cX4_ask 0 = .ok (.aload_n 0, 1) := by decide +kernel
theorem dX4_ask_1 : decode cX4_ask 1 = .ok (.iload_n 1, 1) := by decide +kernel
theorem dX4_ask_2 : decode cX4_ask 2 = .ok (.invokestatic 97, 3) := by decide +kernel
theorem dX4_ask_5 : decode cX4_ask 5 = .ok (.ifCond .eq 14, 3) := by decide +kernel
theorem dX4_ask_8 : decode cX4_ask 8 = .ok (.iload_n 2, 1) := by decide +kernel
theorem dX4_ask_9 : decode cX4_ask 9 = .ok (.invokestatic 97, 3) := by decide +kernel
theorem dX4_ask_12 : decode cX4_ask 12 = .ok (.ifCond .eq 7, 3) := by decide +kernel
theorem dX4_ask_15 : decode cX4_ask 15 = .ok (.iconst 0, 1) := by decide +kernel
theorem dX4_ask_16 : decode cX4_ask 16 = .ok (.goto 4, 3) := by decide +kernel
theorem dX4_ask_19 : decode cX4_ask 19 = .ok (.iconst 1, 1) := by decide +kernel
theorem dX4_ask_20 : decode cX4_ask 20 = .ok (.invokevirtual 101, 3) := by decide +kernel
theorem dX4_ask_23 : decode cX4_ask 23 = .ok (.ireturn, 1) := by decide +kernel
theorem dX4_at_0 : decode cX4_at 0 = .ok (.bipush 8, 2) := by decide +kernel
theorem dX4_at_2 : decode cX4_at 2 = .ok (.iload_n 0, 1) := by decide +kernel
theorem dX4_at_3 : decode cX4_at 3 = .ok (.imul, 1) := by decide +kernel
theorem dX4_at_4 : decode cX4_at 4 = .ok (.iload_n 1, 1) := by decide +kernel
theorem dX4_at_5 : decode cX4_at 5 = .ok (.iadd, 1) := by decide +kernel
theorem dX4_at_6 : decode cX4_at 6 = .ok (.ireturn, 1) := by decide +kernel
set_option maxRecDepth 20000 in
theorem ggX4_shape_X4_isOne : GoodIn wsX4_shape wsX4_isOne := goodIn_r _ [6, 7, 8, 5, 9] (by decide +kernel) (by decide +kernel)
set_option maxRecDepth 20000 in
theorem gX4_shape_X4_isOne : GoodIn wsX4_shape (va_wsS RX4 97 yX4_isOne wsX4_isOne) := goodIn_app (goodIn_of _ (by decide +kernel)) ggX4_shape_X4_isOne
set_option maxRecDepth 20000 in
theorem ggX4_shape_X4_isIn : GoodIn wsX4_shape wsX4_isIn := goodIn_r _ [9] (by decide +kernel) (by decide +kernel)
set_option maxRecDepth 20000 in
theorem gX4_shape_X4_isIn : GoodIn wsX4_shape (va_wsS RX4 93 yX4_isIn wsX4_isIn) := goodIn_app (goodIn_of _ (by decide +kernel)) ggX4_shape_X4_isIn
set_option maxRecDepth 20000 in
theorem ggX4_shape_X4_goes : GoodIn wsX4_shape wsX4_goes := goodIn_r _ [13, 14, 15, 16, 17, 18, 19, 20, 21, 22, 23, 24, 25, 26, 27, 28, 29, 30, 31, 32, 33, 34, 35, 36, 37, 38, 39, 40, 41, 42, 43, 44] (by decide +kernel) (by decide +kernel)
set_option maxRecDepth 20000 in
theorem gX4_shape_X4_goes : GoodIn wsX4_shape (wsV RX4 101 RX4 yX4_goes wsX4_goes) := goodIn_app (goodIn_of _ (by decide +kernel)) ggX4_shape_X4_goes
theorem dX4_shape_0 : decode cX4_shape 0 = .ok (.aload_n 0, 1) := by decide +kernel
theorem dX4_shape_1 : decode cX4_shape 1 = .ok (.iload_n 1, 1) := by decide +kernel
theorem dX4_shape_2 : decode cX4_shape 2 = .ok (.invokestatic 97, 3) := by decide +kernel
theorem dX4_shape_5 : decode cX4_shape 5 = .ok (.ifCond .eq 28, 3) := by decide +kernel
theorem dX4_shape_8 : decode cX4_shape 8 = .ok (.iload_n 2, 1) := by decide +kernel
theorem dX4_shape_9 : decode cX4_shape 9 = .ok (.iconst 1, 1) := by decide +kernel
theorem dX4_shape_10 : decode cX4_shape 10 = .ok (.bipush 100, 2) := by decide +kernel
theorem dX4_shape_12 : decode cX4_shape 12 = .ok (.invokestatic 93, 3) := by decide +kernel
theorem dX4_shape_15 : decode cX4_shape 15 = .ok (.ifCond .eq 18, 3) := by decide +kernel
theorem dX4_shape_18 : decode cX4_shape 18 = .ok (.iload_n 3, 1) := by decide +kernel
theorem dX4_shape_19 : decode cX4_shape 19 = .ok (.iconst 1, 1) := by decide +kernel
theorem dX4_shape_20 : decode cX4_shape 20 = .ok (.sipush 1000, 3) := by decide +kernel
theorem dX4_shape_23 : decode cX4_shape 23 = .ok (.invokestatic 93, 3) := by decide +kernel
theorem dX4_shape_26 : decode cX4_shape 26 = .ok (.ifCond .eq 7, 3) := by decide +kernel
theorem dX4_shape_29 : decode cX4_shape 29 = .ok (.iconst 0, 1) := by decide +kernel
theorem dX4_shape_30 : decode cX4_shape 30 = .ok (.goto 4, 3) := by decide +kernel
theorem dX4_shape_33 : decode cX4_shape 33 = .ok (.iconst 1, 1) := by decide +kernel
theorem dX4_shape_34 : decode cX4_shape 34 = .ok (.invokevirtual 101, 3) := by decide +kernel
theorem dX4_shape_37 : decode cX4_shape 37 = .ok (.ifCond .eq 17, 3) := by decide +kernel
theorem dX4_shape_40 : decode cX4_shape 40 = .ok (.aload_n 0, 1) := by decide +kernel
theorem dX4_shape_41 : decode cX4_shape 41 = .ok (.getfield 7, 3) := by decide +kernel
theorem dX4_shape_44 : decode cX4_shape 44 = .ok (.iload_n 1, 1) := by decide +kernel
theorem dX4_shape_45 : decode cX4_shape 45 = .ok (.iload_n 2, 1) := by decide +kernel
theorem dX4_shape_46 : decode cX4_shape 46 = .ok (.iastore, 1) := by decide +kernel
theorem dX4_shape_47 : decode cX4_shape 47 = .ok (.aload_n 0, 1) := by decide +kernel
theorem dX4_shape_48 : decode cX4_shape 48 = .ok (.getfield 13, 3) := by decide +kernel
theorem dX4_shape_51 : decode cX4_shape 51 = .ok (.iload_n 1, 1) := by decide +kernel
theorem dX4_shape_52 : decode cX4_shape 52 = .ok (.iload_n 3, 1) := by decide +kernel
theorem dX4_shape_53 : decode cX4_shape 53 = .ok (.iastore, 1) := by decide +kernel
theorem dX4_shape_54 : decode cX4_shape 54 = .ok (.return_, 1) := by decide +kernel
set_option maxRecDepth 20000 in
theorem ggX4_setGauge_X4_isOne : GoodIn wsX4_setGauge wsX4_isOne := goodIn_r _ [5, 6, 7, 4, 8] (by decide +kernel) (by decide +kernel)
set_option maxRecDepth 20000 in
theorem gX4_setGauge_X4_isOne : GoodIn wsX4_setGauge (va_wsS RX4 97 yX4_isOne wsX4_isOne) := goodIn_app (goodIn_of _ (by decide +kernel)) ggX4_setGauge_X4_isOne
set_option maxRecDepth 20000 in
theorem ggX4_setGauge_X4_isIn : GoodIn wsX4_setGauge wsX4_isIn := goodIn_r _ [8] (by decide +kernel) (by decide +kernel)
set_option maxRecDepth 20000 in
theorem gX4_setGauge_X4_isIn : GoodIn wsX4_setGauge (va_wsS RX4 93 yX4_isIn wsX4_isIn) := goodIn_app (goodIn_of _ (by decide +kernel)) ggX4_setGauge_X4_isIn
set_option maxRecDepth 20000 in
theorem ggX4_setGauge_X4_goes : GoodIn wsX4_setGauge wsX4_goes := goodIn_r _ [12, 13, 14, 15, 16, 17, 18, 19, 20, 21, 22, 23, 24, 25, 26, 27, 28, 29, 30, 31, 32, 33, 34, 35, 36, 37, 38, 39, 40, 41, 42, 43] (by decide +kernel) (by decide +kernel)
set_option maxRecDepth 20000 in
theorem gX4_setGauge_X4_goes : GoodIn wsX4_setGauge (wsV RX4 101 RX4 yX4_goes wsX4_goes) := goodIn_app (goodIn_of _ (by decide +kernel)) ggX4_setGauge_X4_goes
theorem dX4_setGauge_0 : decode cX4_setGauge 0 = .ok (.aload_n 0, 1) := by decide +kernel
theorem dX4_setGauge_1 : decode cX4_setGauge 1 = .ok (.iload_n 1, 1) := by decide +kernel
theorem dX4_setGauge_2 : decode cX4_setGauge 2 = .ok (.invokestatic 97, 3) := by decide +kernel
theorem dX4_setGauge_5 : decode cX4_setGauge 5 = .ok (.ifCond .eq 17, 3) := by decide +kernel
theorem dX4_setGauge_8 : decode cX4_setGauge 8 = .ok (.iload_n 2, 1) := by decide +kernel
theorem dX4_setGauge_9 : decode cX4_setGauge 9 = .ok (.iconst 1, 1) := by decide +kernel
theorem dX4_setGauge_10 : decode cX4_setGauge 10 = .ok (.bipush 50, 2) := by decide +kernel
theorem dX4_setGauge_12 : decode cX4_setGauge 12 = .ok (.invokestatic 93, 3) := by decide +kernel
theorem dX4_setGauge_15 : decode cX4_setGauge 15 = .ok (.ifCond .eq 7, 3) := by decide +kernel
theorem dX4_setGauge_18 : decode cX4_setGauge 18 = .ok (.iconst 0, 1) := by decide +kernel
theorem dX4_setGauge_19 : decode cX4_setGauge 19 = .ok (.goto 4, 3) := by decide +kernel
theorem dX4_setGauge_22 : decode cX4_setGauge 22 = .ok (.iconst 1, 1) := by decide +kernel
theorem dX4_setGauge_23 : decode cX4_setGauge 23 = .ok (.invokevirtual 101, 3) := by decide +kernel
theorem dX4_setGauge_26 : decode cX4_setGauge 26 = .ok (.ifCond .ne 5, 3) := by decide +kernel
theorem dX4_setGauge_29 : decode cX4_setGauge 29 = .ok (.iconst 0, 1) := by decide +kernel
theorem dX4_setGauge_30 : decode cX4_setGauge 30 = .ok (.ireturn, 1) := by decide +kernel
theorem dX4_setGauge_31 : decode cX4_setGauge 31 = .ok (.aload_n 0, 1) := by decide +kernel
theorem dX4_setGauge_32 : decode cX4_setGauge 32 = .ok (.getfield 22, 3) := by decide +kernel
theorem dX4_setGauge_35 : decode cX4_setGauge 35 = .ok (.iload_n 1, 1) := by decide +kernel
theorem dX4_setGauge_36 : decode cX4_setGauge 36 = .ok (.iaload, 1) := by decide +kernel
theorem dX4_setGauge_37 : decode cX4_setGauge 37 = .ok (.istore_n 3, 1) := by decide +kernel
theorem dX4_setGauge_38 : decode cX4_setGauge 38 = .ok (.aload_n 0, 1) := by decide +kernel
theorem dX4_setGauge_39 : decode cX4_setGauge 39 = .ok (.getfield 22, 3) := by decide +kernel
theorem dX4_setGauge_42 : decode cX4_setGauge 42 = .ok (.iload_n 1, 1) := by decide +kernel
theorem dX4_setGauge_43 : decode cX4_setGauge 43 = .ok (.iload_n 2, 1) := by decide +kernel
theorem dX4_setGauge_44 : decode cX4_setGauge 44 = .ok (.iastore, 1) := by decide +kernel
theorem dX4_setGauge_45 : decode cX4_setGauge 45 = .ok (.iload_n 3, 1) := by decide +kernel
theorem dX4_setGauge_46 : decode cX4_setGauge 46 = .ok (.ireturn, 1) := by decide +kernel
set_option maxRecDepth 20000 in
theorem ggX4_setSource_X4_isIn : GoodIn wsX4_setSource wsX4_isIn := goodIn_r _ [5] (by decide +kernel) (by decide +kernel)
set_option maxRecDepth 20000 in
theorem gX4_setSource_X4_isIn : GoodIn wsX4_setSource (va_wsS RX4 93 yX4_isIn wsX4_isIn) := goodIn_app (goodIn_of _ (by decide +kernel)) ggX4_setSource_X4_isIn
set_option maxRecDepth 20000 in
theorem ggX4_setSource_X4_goes : GoodIn wsX4_setSource wsX4_goes := goodIn_r _ [9, 10, 11, 12, 13, 14, 15, 16, 17, 18, 19, 20, 21, 22, 23, 24, 25, 26, 27, 28, 29, 30, 31, 32, 33, 34, 35, 36, 37, 38, 39, 40] (by decide +kernel) (by decide +kernel)
set_option maxRecDepth 20000 in
theorem gX4_setSource_X4_goes : GoodIn wsX4_setSource (wsV RX4 101 RX4 yX4_goes wsX4_goes) := goodIn_app (goodIn_of _ (by decide +kernel)) ggX4_setSource_X4_goes
theorem dX4_setSource_0 : decode cX4_setSource 0 = .ok (.aload_n 0, 1) := by decide +kernel
theorem dX4_setSource_1 : decode cX4_setSource 1 = .ok (.iload_n 1, 1) := by decide +kernel
theorem dX4_setSource_2 : decode cX4_setSource 2 = .ok (.iconst 0, 1) := by decide +kernel
theorem dX4_setSource_3 : decode cX4_setSource 3 = .ok (.sipush 1000, 3) := by decide +kernel
theorem dX4_setSource_6 : decode cX4_setSource 6 = .ok (.invokestatic 93, 3) := by decide +kernel
theorem dX4_setSource_9 : decode cX4_setSource 9 = .ok (.ifCond .eq 7, 3) := by decide +kernel
theorem dX4_setSource_12 : decode cX4_setSource 12 = .ok (.iconst 0, 1) := by decide +kernel
theorem dX4_setSource_13 : decode cX4_setSource 13 = .ok (.goto 4, 3) := by decide +kernel
theorem dX4_setSource_16 : decode cX4_setSource 16 = .ok (.iconst 1, 1) := by decide +kernel
theorem dX4_setSource_17 : decode cX4_setSource 17 = .ok (.invokevirtual 101, 3) := by decide +kernel
theorem dX4_setSource_20 : decode cX4_setSource 20 = .ok (.ifCond .ne 5, 3) := by decide +kernel
theorem dX4_setSource_23 : decode cX4_setSource 23 = .ok (.iconst 0, 1) := by decide +kernel
theorem dX4_setSource_24 : decode cX4_setSource 24 = .ok (.ireturn, 1) := by decide +kernel
theorem dX4_setSource_25 : decode cX4_setSource 25 = .ok (.aload_n 0, 1) := by decide +kernel
theorem dX4_setSource_26 : decode cX4_setSource 26 = .ok (.getfield 104, 3) := by decide +kernel
theorem dX4_setSource_29 : decode cX4_setSource 29 = .ok (.istore_n 2, 1) := by decide +kernel
theorem dX4_setSource_30 : decode cX4_setSource 30 = .ok (.aload_n 0, 1) := by decide +kernel
theorem dX4_setSource_31 : decode cX4_setSource 31 = .ok (.iload_n 1, 1) := by decide +kernel
theorem dX4_setSource_32 : decode cX4_setSource 32 = .ok (.putfield 104, 3) := by decide +kernel
theorem dX4_setSource_35 : decode cX4_setSource 35 = .ok (.iload_n 2, 1) := by decide +kernel
theorem dX4_setSource_36 : decode cX4_setSource 36 = .ok (.ireturn, 1) := by decide +kernel
set_option maxRecDepth 20000 in
theorem ggX4_rain_X4_isOne : GoodIn wsX4_rain wsX4_isOne := goodIn_r _ [5, 6, 7, 4, 8] (by decide +kernel) (by decide +kernel)
set_option maxRecDepth 20000 in
theorem gX4_rain_X4_isOne : GoodIn wsX4_rain (va_wsS RX4 97 yX4_isOne wsX4_isOne) := goodIn_app (goodIn_of _ (by decide +kernel)) ggX4_rain_X4_isOne
set_option maxRecDepth 20000 in
theorem ggX4_rain_X4_isIn : GoodIn wsX4_rain wsX4_isIn := goodIn_r _ [8] (by decide +kernel) (by decide +kernel)
set_option maxRecDepth 20000 in
theorem gX4_rain_X4_isIn : GoodIn wsX4_rain (va_wsS RX4 93 yX4_isIn wsX4_isIn) := goodIn_app (goodIn_of _ (by decide +kernel)) ggX4_rain_X4_isIn
set_option maxRecDepth 20000 in
theorem ggX4_rain_X4_goes : GoodIn wsX4_rain wsX4_goes := goodIn_r _ [12, 13, 14, 15, 16, 17, 18, 19, 20, 21, 22, 23, 24, 25, 26, 27, 28, 29, 30, 31, 32, 33, 34, 35, 36, 37, 38, 39, 40, 41, 42, 43] (by decide +kernel) (by decide +kernel)
set_option maxRecDepth 20000 in
theorem gX4_rain_X4_goes : GoodIn wsX4_rain (wsV RX4 101 RX4 yX4_goes wsX4_goes) := goodIn_app (goodIn_of _ (by decide +kernel)) ggX4_rain_X4_goes
theorem dX4_rain_0 : decode cX4_rain 0 = .ok (.aload_n 0, 1) := by decide +kernel
theorem dX4_rain_1 : decode cX4_rain 1 = .ok (.iload_n 1, 1) := by decide +kernel
theorem dX4_rain_2 : decode cX4_rain 2 = .ok (.invokestatic 97, 3) := by decide +kernel
theorem dX4_rain_5 : decode cX4_rain 5 = .ok (.ifCond .eq 18, 3) := by decide +kernel
theorem dX4_rain_8 : decode cX4_rain 8 = .ok (.iload_n 2, 1) := by decide +kernel
theorem dX4_rain_9 : decode cX4_rain 9 = .ok (.iconst 1, 1) := by decide +kernel
theorem dX4_rain_10 : decode cX4_rain 10 = .ok (.sipush 10000, 3) := by decide +kernel
theorem dX4_rain_13 : decode cX4_rain 13 = .ok (.invokestatic 93, 3) := by decide +kernel
theorem dX4_rain_16 : decode cX4_rain 16 = .ok (.ifCond .eq 7, 3) := by decide +kernel
theorem dX4_rain_19 : decode cX4_rain 19 = .ok (.iconst 0, 1) := by decide +kernel
theorem dX4_rain_20 : decode cX4_rain 20 = .ok (.goto 4, 3) := by decide +kernel
theorem dX4_rain_23 : decode cX4_rain 23 = .ok (.iconst 1, 1) := by decide +kernel
theorem dX4_rain_24 : decode cX4_rain 24 = .ok (.invokevirtual 101, 3) := by decide +kernel
theorem dX4_rain_27 : decode cX4_rain 27 = .ok (.ifCond .ne 5, 3) := by decide +kernel
theorem dX4_rain_30 : decode cX4_rain 30 = .ok (.iconst 0, 1) := by decide +kernel
theorem dX4_rain_31 : decode cX4_rain 31 = .ok (.ireturn, 1) := by decide +kernel
theorem dX4_rain_32 : decode cX4_rain 32 = .ok (.aload_n 0, 1) := by decide +kernel
theorem dX4_rain_33 : decode cX4_rain 33 = .ok (.getfield 25, 3) := by decide +kernel
theorem dX4_rain_36 : decode cX4_rain 36 = .ok (.iload_n 1, 1) := by decide +kernel
theorem dX4_rain_37 : decode cX4_rain 37 = .ok (.dup2, 1) := by decide +kernel
theorem dX4_rain_38 : decode cX4_rain 38 = .ok (.iaload, 1) := by decide +kernel
theorem dX4_rain_39 : decode cX4_rain 39 = .ok (.iload_n 2, 1) := by decide +kernel
theorem dX4_rain_40 : decode cX4_rain 40 = .ok (.iadd, 1) := by decide +kernel
theorem dX4_rain_41 : decode cX4_rain 41 = .ok (.iastore, 1) := by decide +kernel
theorem dX4_rain_42 : decode cX4_rain 42 = .ok (.aload_n 0, 1) := by decide +kernel
theorem dX4_rain_43 : decode cX4_rain 43 = .ok (.getfield 25, 3) := by decide +kernel
theorem dX4_rain_46 : decode cX4_rain 46 = .ok (.iload_n 1, 1) := by decide +kernel
theorem dX4_rain_47 : decode cX4_rain 47 = .ok (.iaload, 1) := by decide +kernel
theorem dX4_rain_48 : decode cX4_rain 48 = .ok (.ireturn, 1) := by decide +kernel
set_option maxRecDepth 20000 in
theorem ggX4_volume_X4_asks : GoodIn wsX4_volume wsX4_asks := goodIn_r _ [6, 7, 8, 5, 9, 10, 11, 12, 13, 14, 15, 16, 17, 18, 19, 20, 21, 22, 23, 24, 25, 26, 27, 28, 29, 30, 31, 32, 33, 34, 35, 36, 37, 38, 39, 40, 41, 42, 43, 44, 45, 46, 47] (by decide +kernel) (by decide +kernel)
set_option maxRecDepth 20000 in
theorem gX4_volume_X4_asks : GoodIn wsX4_volume (wsV RX4 107 RX4 yX4_asks wsX4_asks) := goodIn_app (goodIn_of _ (by decide +kernel)) ggX4_volume_X4_asks
theorem dX4_volume_0 : decode cX4_volume 0 = .ok (.aload_n 0, 1) := by decide +kernel
theorem dX4_volume_1 : decode cX4_volume 1 = .ok (.iload_n 1, 1) := by decide +kernel
theorem dX4_volume_2 : decode cX4_volume 2 = .ok (.invokevirtual 107, 3) := by decide +kernel
theorem dX4_volume_5 : decode cX4_volume 5 = .ok (.ifCond .eq 12, 3) := by decide +kernel
theorem dX4_volume_8 : decode cX4_volume 8 = .ok (.aload_n 0, 1) := by decide +kernel
theorem dX4_volume_9 : decode cX4_volume 9 = .ok (.getfield 16, 3) := by decide +kernel
theorem dX4_volume_12 : decode cX4_volume 12 = .ok (.iload_n 1, 1) := by decide +kernel
theorem dX4_volume_13 : decode cX4_volume 13 = .ok (.iaload, 1) := by decide +kernel
theorem dX4_volume_14 : decode cX4_volume 14 = .ok (.goto 4, 3) := by decide +kernel
theorem dX4_volume_17 : decode cX4_volume 17 = .ok (.iconst 0, 1) := by decide +kernel
theorem dX4_volume_18 : decode cX4_volume 18 = .ok (.ireturn, 1) := by decide +kernel
set_option maxRecDepth 20000 in
theorem ggX4_volumeByBalance_X4_asks : GoodIn wsX4_volumeByBalance wsX4_asks := goodIn_r _ [6, 7, 8, 5, 9, 10, 11, 12, 13, 14, 15, 16, 17, 18, 19, 20, 21, 22, 23, 24, 25, 26, 27, 28, 29, 30, 31, 32, 33, 34, 35, 36, 37, 38, 39, 40, 41, 42, 43, 44, 45, 46, 47] (by decide +kernel) (by decide +kernel)
set_option maxRecDepth 20000 in
theorem gX4_volumeByBalance_X4_asks : GoodIn wsX4_volumeByBalance (wsV RX4 107 RX4 yX4_asks wsX4_asks) := goodIn_app (goodIn_of _ (by decide +kernel)) ggX4_volumeByBalance_X4_asks
theorem dX4_volumeByBalance_0 : decode cX4_volumeByBalance 0 = .ok (.aload_n 0, 1) := by decide +kernel
theorem dX4_volumeByBalance_1 : decode cX4_volumeByBalance 1 = .ok (.iload_n 1, 1) := by decide +kernel
theorem dX4_volumeByBalance_2 : decode cX4_volumeByBalance 2 = .ok (.invokevirtual 107, 3) := by decide +kernel
theorem dX4_volumeByBalance_5 : decode cX4_volumeByBalance 5 = .ok (.ifCond .eq 12, 3) := by decide +kernel
theorem dX4_volumeByBalance_8 : decode cX4_volumeByBalance 8 = .ok (.aload_n 0, 1) := by decide +kernel
theorem dX4_volumeByBalance_9 : decode cX4_volumeByBalance 9 = .ok (.getfield 16, 3) := by decide +kernel
theorem dX4_volumeByBalance_12 : decode cX4_volumeByBalance 12 = .ok (.iload_n 1, 1) := by decide +kernel
theorem dX4_volumeByBalance_13 : decode cX4_volumeByBalance 13 = .ok (.iaload, 1) := by decide +kernel
theorem dX4_volumeByBalance_14 : decode cX4_volumeByBalance 14 = .ok (.goto 4, 3) := by decide +kernel
theorem dX4_volumeByBalance_17 : decode cX4_volumeByBalance 17 = .ok (.iconst 0, 1) := by decide +kernel
theorem dX4_volumeByBalance_18 : decode cX4_volumeByBalance 18 = .ok (.ireturn, 1) := by decide +kernel
theorem dX4_levelOf_0 : decode cX4_levelOf 0 = .ok (.aload_n 0, 1) := by decide +kernel
theorem dX4_levelOf_1 : decode cX4_levelOf 1 = .ok (.getfield 16, 3) := by decide +kernel
theorem dX4_levelOf_4 : decode cX4_levelOf 4 = .ok (.iload_n 1, 1) := by decide +kernel
theorem dX4_levelOf_5 : decode cX4_levelOf 5 = .ok (.iaload, 1) := by decide +kernel
theorem dX4_levelOf_6 : decode cX4_levelOf 6 = .ok (.aload_n 0, 1) := by decide +kernel
theorem dX4_levelOf_7 : decode cX4_levelOf 7 = .ok (.getfield 7, 3) := by decide +kernel
theorem dX4_levelOf_10 : decode cX4_levelOf 10 = .ok (.iload_n 1, 1) := by decide +kernel
theorem dX4_levelOf_11 : decode cX4_levelOf 11 = .ok (.iaload, 1) := by decide +kernel
theorem dX4_levelOf_12 : decode cX4_levelOf 12 = .ok (.idiv, 1) := by decide +kernel
theorem dX4_levelOf_13 : decode cX4_levelOf 13 = .ok (.ireturn, 1) := by decide +kernel
set_option maxRecDepth 20000 in
theorem ggX4_level_X4_asks : GoodIn wsX4_level wsX4_asks := goodIn_r _ [5, 6, 7, 4, 8, 9, 10, 11, 12, 13, 14, 15, 16, 23, 24, 25, 26, 27, 28, 29, 30, 31, 32, 33, 34, 35, 36, 37, 38, 39, 40, 41, 42, 43, 44, 45, 46, 47, 48, 49, 50, 51, 52] (by decide +kernel) (by decide +kernel)
set_option maxRecDepth 20000 in
theorem gX4_level_X4_asks : GoodIn wsX4_level (wsV RX4 107 RX4 yX4_asks wsX4_asks) := goodIn_app (goodIn_of _ (by decide +kernel)) ggX4_level_X4_asks
set_option maxRecDepth 20000 in
theorem ggX4_level_X4_levelOf : GoodIn wsX4_level wsX4_levelOf := goodIn_r _ [20, 21, 22, 23, 24, 25, 26, 27, 28, 29, 30, 31, 32, 33, 34, 35, 36, 37, 38, 39, 40, 41, 42, 43, 44, 45, 46, 47, 48, 49, 50, 51, 52] (by decide +kernel) (by decide +kernel)
set_option maxRecDepth 20000 in
theorem gX4_level_X4_levelOf : GoodIn wsX4_level (wsV RX4 110 RX4 yX4_levelOf wsX4_levelOf) := goodIn_app (goodIn_of _ (by decide +kernel)) ggX4_level_X4_levelOf
theorem dX4_level_0 : decode cX4_level 0 = .ok (.aload_n 0, 1) := by decide +kernel
theorem dX4_level_1 : decode cX4_level 1 = .ok (.iload_n 1, 1) := by decide +kernel
theorem dX4_level_2 : decode cX4_level 2 = .ok (.invokevirtual 107, 3) := by decide +kernel
theorem dX4_level_5 : decode cX4_level 5 = .ok (.ifCond .eq 11, 3) := by decide +kernel
theorem dX4_level_8 : decode cX4_level 8 = .ok (.aload_n 0, 1) := by decide +kernel
theorem dX4_level_9 : decode cX4_level 9 = .ok (.iload_n 1, 1) := by decide +kernel
theorem dX4_level_10 : decode cX4_level 10 = .ok (.invokevirtual 110, 3) := by decide +kernel
theorem dX4_level_13 : decode cX4_level 13 = .ok (.goto 4, 3) := by decide +kernel
theorem dX4_level_16 : decode cX4_level 16 = .ok (.iconst 0, 1) := by decide +kernel
theorem dX4_level_17 : decode cX4_level 17 = .ok (.ireturn, 1) := by decide +kernel
set_option maxRecDepth 20000 in
theorem ggX4_flowed_X4_asks : GoodIn wsX4_flowed wsX4_asks := goodIn_r _ [6, 7, 8, 5, 9, 10, 11, 12, 13, 14, 15, 16, 17, 18, 19, 20, 21, 22, 23, 24, 25, 26, 27, 28, 29, 30, 31, 32, 33, 34, 35, 36, 37, 38, 39, 40, 41, 42, 43, 44, 45, 46, 47] (by decide +kernel) (by decide +kernel)
set_option maxRecDepth 20000 in
theorem gX4_flowed_X4_asks : GoodIn wsX4_flowed (wsV RX4 107 RX4 yX4_asks wsX4_asks) := goodIn_app (goodIn_of _ (by decide +kernel)) ggX4_flowed_X4_asks
theorem dX4_flowed_0 : decode cX4_flowed 0 = .ok (.aload_n 0, 1) := by decide +kernel
theorem dX4_flowed_1 : decode cX4_flowed 1 = .ok (.iload_n 1, 1) := by decide +kernel
theorem dX4_flowed_2 : decode cX4_flowed 2 = .ok (.invokevirtual 107, 3) := by decide +kernel
theorem dX4_flowed_5 : decode cX4_flowed 5 = .ok (.ifCond .eq 12, 3) := by decide +kernel
theorem dX4_flowed_8 : decode cX4_flowed 8 = .ok (.aload_n 0, 1) := by decide +kernel
theorem dX4_flowed_9 : decode cX4_flowed 9 = .ok (.getfield 31, 3) := by decide +kernel
theorem dX4_flowed_12 : decode cX4_flowed 12 = .ok (.iload_n 1, 1) := by decide +kernel
theorem dX4_flowed_13 : decode cX4_flowed 13 = .ok (.iaload, 1) := by decide +kernel
theorem dX4_flowed_14 : decode cX4_flowed 14 = .ok (.goto 4, 3) := by decide +kernel
theorem dX4_flowed_17 : decode cX4_flowed 17 = .ok (.iconst 0, 1) := by decide +kernel
theorem dX4_flowed_18 : decode cX4_flowed 18 = .ok (.ireturn, 1) := by decide +kernel
set_option maxRecDepth 20000 in
theorem ggX4_spilled_X4_asks : GoodIn wsX4_spilled wsX4_asks := goodIn_r _ [6, 7, 8, 5, 9, 10, 11, 12, 13, 14, 15, 16, 17, 18, 19, 20, 21, 22, 23, 24, 25, 26, 27, 28, 29, 30, 31, 32, 33, 34, 35, 36, 37, 38, 39, 40, 41, 42, 43, 44, 45, 46, 47] (by decide +kernel) (by decide +kernel)
set_option maxRecDepth 20000 in
theorem gX4_spilled_X4_asks : GoodIn wsX4_spilled (wsV RX4 107 RX4 yX4_asks wsX4_asks) := goodIn_app (goodIn_of _ (by decide +kernel)) ggX4_spilled_X4_asks
theorem dX4_spilled_0 : decode cX4_spilled 0 = .ok (.aload_n 0, 1) := by decide +kernel
theorem dX4_spilled_1 : decode cX4_spilled 1 = .ok (.iload_n 1, 1) := by decide +kernel
theorem dX4_spilled_2 : decode cX4_spilled 2 = .ok (.invokevirtual 107, 3) := by decide +kernel
theorem dX4_spilled_5 : decode cX4_spilled 5 = .ok (.ifCond .eq 12, 3) := by decide +kernel
theorem dX4_spilled_8 : decode cX4_spilled 8 = .ok (.aload_n 0, 1) := by decide +kernel
theorem dX4_spilled_9 : decode cX4_spilled 9 = .ok (.getfield 34, 3) := by decide +kernel
theorem dX4_spilled_12 : decode cX4_spilled 12 = .ok (.iload_n 1, 1) := by decide +kernel
theorem dX4_spilled_13 : decode cX4_spilled 13 = .ok (.iaload, 1) := by decide +kernel
theorem dX4_spilled_14 : decode cX4_spilled 14 = .ok (.goto 4, 3) := by decide +kernel
theorem dX4_spilled_17 : decode cX4_spilled 17 = .ok (.iconst 0, 1) := by decide +kernel
theorem dX4_spilled_18 : decode cX4_spilled 18 = .ok (.ireturn, 1) := by decide +kernel
set_option maxRecDepth 20000 in
theorem ggX4_setRule_X4_isOne : GoodIn wsX4_setRule wsX4_isOne := goodIn_r _ [8, 9, 10, 7, 11] (by decide +kernel) (by decide +kernel)
set_option maxRecDepth 20000 in
theorem gX4_setRule_X4_isOne : GoodIn wsX4_setRule (va_wsS RX4 97 yX4_isOne wsX4_isOne) := goodIn_app (goodIn_of _ (by decide +kernel)) ggX4_setRule_X4_isOne
set_option maxRecDepth 20000 in
theorem ggX4_setRule_X4_isIn : GoodIn wsX4_setRule wsX4_isIn := goodIn_r _ [11] (by decide +kernel) (by decide +kernel)
set_option maxRecDepth 20000 in
theorem gX4_setRule_X4_isIn : GoodIn wsX4_setRule (va_wsS RX4 93 yX4_isIn wsX4_isIn) := goodIn_app (goodIn_of _ (by decide +kernel)) ggX4_setRule_X4_isIn
set_option maxRecDepth 20000 in
theorem ggX4_setRule_X4_goes : GoodIn wsX4_setRule wsX4_goes := goodIn_r _ [15, 16, 17, 18, 19, 20, 21, 22, 23, 24, 25, 26, 27, 28, 29, 30, 31, 32, 33, 34, 35, 36, 37, 38, 39, 40, 41, 42, 43, 44, 45, 46] (by decide +kernel) (by decide +kernel)
set_option maxRecDepth 20000 in
theorem gX4_setRule_X4_goes : GoodIn wsX4_setRule (wsV RX4 101 RX4 yX4_goes wsX4_goes) := goodIn_app (goodIn_of _ (by decide +kernel)) ggX4_setRule_X4_goes
theorem dX4_setRule_0 : decode cX4_setRule 0 = .ok (.iload_n 1, 1) := by decide +kernel
theorem dX4_setRule_1 : decode cX4_setRule 1 = .ok (.invokestatic 97, 3) := by decide +kernel
theorem dX4_setRule_4 : decode cX4_setRule 4 = .ok (.ifCond .eq 52, 3) := by decide +kernel
theorem dX4_setRule_7 : decode cX4_setRule 7 = .ok (.iload_n 2, 1) := by decide +kernel
theorem dX4_setRule_8 : decode cX4_setRule 8 = .ok (.iconst 0, 1) := by decide +kernel
theorem dX4_setRule_9 : decode cX4_setRule 9 = .ok (.sipush 1000, 3) := by decide +kernel
theorem dX4_setRule_12 : decode cX4_setRule 12 = .ok (.invokestatic 93, 3) := by decide +kernel
theorem dX4_setRule_15 : decode cX4_setRule 15 = .ok (.ifCond .eq 41, 3) := by decide +kernel
theorem dX4_setRule_18 : decode cX4_setRule 18 = .ok (.iload_n 3, 1) := by decide +kernel
theorem dX4_setRule_19 : decode cX4_setRule 19 = .ok (.iload_n 2, 1) := by decide +kernel
theorem dX4_setRule_20 : decode cX4_setRule 20 = .ok (.sipush 1000, 3) := by decide +kernel
theorem dX4_setRule_23 : decode cX4_setRule 23 = .ok (.invokestatic 93, 3) := by decide +kernel
theorem dX4_setRule_26 : decode cX4_setRule 26 = .ok (.ifCond .eq 30, 3) := by decide +kernel
theorem dX4_setRule_29 : decode cX4_setRule 29 = .ok (.iload 4, 2) := by decide +kernel
theorem dX4_setRule_31 : decode cX4_setRule 31 = .ok (.iconst 0, 1) := by decide +kernel
theorem dX4_setRule_32 : decode cX4_setRule 32 = .ok (.sipush 1000, 3) := by decide +kernel
theorem dX4_setRule_35 : decode cX4_setRule 35 = .ok (.invokestatic 93, 3) := by decide +kernel
theorem dX4_setRule_38 : decode cX4_setRule 38 = .ok (.ifCond .eq 18, 3) := by decide +kernel
theorem dX4_setRule_41 : decode cX4_setRule 41 = .ok (.iload 5, 2) := by decide +kernel
theorem dX4_setRule_43 : decode cX4_setRule 43 = .ok (.iconst 0, 1) := by decide +kernel
theorem dX4_setRule_44 : decode cX4_setRule 44 = .ok (.bipush 100, 2) := by decide +kernel
theorem dX4_setRule_46 : decode cX4_setRule 46 = .ok (.invokestatic 93, 3) := by decide +kernel
theorem dX4_setRule_49 : decode cX4_setRule 49 = .ok (.ifCond .eq 7, 3) := by decide +kernel
theorem dX4_setRule_52 : decode cX4_setRule 52 = .ok (.iconst 1, 1) := by decide +kernel
theorem dX4_setRule_53 : decode cX4_setRule 53 = .ok (.goto 4, 3) := by decide +kernel
theorem dX4_setRule_56 : decode cX4_setRule 56 = .ok (.iconst 0, 1) := by decide +kernel
theorem dX4_setRule_57 : decode cX4_setRule 57 = .ok (.istore 6, 2) := by decide +kernel
theorem dX4_setRule_59 : decode cX4_setRule 59 = .ok (.aload_n 0, 1) := by decide +kernel
theorem dX4_setRule_60 : decode cX4_setRule 60 = .ok (.iload 6, 2) := by decide +kernel
theorem dX4_setRule_62 : decode cX4_setRule 62 = .ok (.ifCond .eq 7, 3) := by decide +kernel
theorem dX4_setRule_65 : decode cX4_setRule 65 = .ok (.iconst 0, 1) := by decide +kernel
theorem dX4_setRule_66 : decode cX4_setRule 66 = .ok (.goto 4, 3) := by decide +kernel
theorem dX4_setRule_69 : decode cX4_setRule 69 = .ok (.iconst 1, 1) := by decide +kernel
theorem dX4_setRule_70 : decode cX4_setRule 70 = .ok (.invokevirtual 101, 3) := by decide +kernel
theorem dX4_setRule_73 : decode cX4_setRule 73 = .ok (.ifCond .eq 33, 3) := by decide +kernel
theorem dX4_setRule_76 : decode cX4_setRule 76 = .ok (.aload_n 0, 1) := by decide +kernel
theorem dX4_setRule_77 : decode cX4_setRule 77 = .ok (.getfield 37, 3) := by decide +kernel
theorem dX4_setRule_80 : decode cX4_setRule 80 = .ok (.iload_n 1, 1) := by decide +kernel
theorem dX4_setRule_81 : decode cX4_setRule 81 = .ok (.iload_n 2, 1) := by decide +kernel
theorem dX4_setRule_82 : decode cX4_setRule 82 = .ok (.iastore, 1) := by decide +kernel
theorem dX4_setRule_83 : decode cX4_setRule 83 = .ok (.aload_n 0, 1) := by decide +kernel
theorem dX4_setRule_84 : decode cX4_setRule 84 = .ok (.getfield 40, 3) := by decide +kernel
theorem dX4_setRule_87 : decode cX4_setRule 87 = .ok (.iload_n 1, 1) := by decide +kernel
theorem dX4_setRule_88 : decode cX4_setRule 88 = .ok (.iload_n 3, 1) := by decide +kernel
theorem dX4_setRule_89 : decode cX4_setRule 89 = .ok (.iastore, 1) := by decide +kernel
theorem dX4_setRule_90 : decode cX4_setRule 90 = .ok (.aload_n 0, 1) := by decide +kernel
theorem dX4_setRule_91 : decode cX4_setRule 91 = .ok (.getfield 43, 3) := by decide +kernel
theorem dX4_setRule_94 : decode cX4_setRule 94 = .ok (.iload_n 1, 1) := by decide +kernel
theorem dX4_setRule_95 : decode cX4_setRule 95 = .ok (.iload 4, 2) := by decide +kernel
theorem dX4_setRule_97 : decode cX4_setRule 97 = .ok (.iastore, 1) := by decide +kernel
theorem dX4_setRule_98 : decode cX4_setRule 98 = .ok (.aload_n 0, 1) := by decide +kernel
theorem dX4_setRule_99 : decode cX4_setRule 99 = .ok (.getfield 46, 3) := by decide +kernel
theorem dX4_setRule_102 : decode cX4_setRule 102 = .ok (.iload_n 1, 1) := by decide +kernel
theorem dX4_setRule_103 : decode cX4_setRule 103 = .ok (.iload 5, 2) := by decide +kernel
theorem dX4_setRule_105 : decode cX4_setRule 105 = .ok (.iastore, 1) := by decide +kernel
theorem dX4_setRule_106 : decode cX4_setRule 106 = .ok (.return_, 1) := by decide +kernel
set_option maxRecDepth 20000 in
theorem ggX4_byHand_X4_isOne : GoodIn wsX4_byHand wsX4_isOne := goodIn_r _ [6, 7, 8, 5, 9] (by decide +kernel) (by decide +kernel)
set_option maxRecDepth 20000 in
theorem gX4_byHand_X4_isOne : GoodIn wsX4_byHand (va_wsS RX4 97 yX4_isOne wsX4_isOne) := goodIn_app (goodIn_of _ (by decide +kernel)) ggX4_byHand_X4_isOne
set_option maxRecDepth 20000 in
theorem ggX4_byHand_X4_isIn : GoodIn wsX4_byHand wsX4_isIn := goodIn_r _ [9] (by decide +kernel) (by decide +kernel)
set_option maxRecDepth 20000 in
theorem gX4_byHand_X4_isIn : GoodIn wsX4_byHand (va_wsS RX4 93 yX4_isIn wsX4_isIn) := goodIn_app (goodIn_of _ (by decide +kernel)) ggX4_byHand_X4_isIn
set_option maxRecDepth 20000 in
theorem ggX4_byHand_X4_goes : GoodIn wsX4_byHand wsX4_goes := goodIn_r _ [13, 14, 15, 16, 17, 18, 19, 20, 21, 22, 23, 24, 25, 26, 27, 28, 29, 30, 31, 32, 33, 34, 35, 36, 37, 38, 39, 40, 41, 42, 43, 44] (by decide +kernel) (by decide +kernel)
set_option maxRecDepth 20000 in
theorem gX4_byHand_X4_goes : GoodIn wsX4_byHand (wsV RX4 101 RX4 yX4_goes wsX4_goes) := goodIn_app (goodIn_of _ (by decide +kernel)) ggX4_byHand_X4_goes
theorem dX4_byHand_0 : decode cX4_byHand 0 = .ok (.aload_n 0, 1) := by decide +kernel
theorem dX4_byHand_1 : decode cX4_byHand 1 = .ok (.iload_n 1, 1) := by decide +kernel
theorem dX4_byHand_2 : decode cX4_byHand 2 = .ok (.invokestatic 97, 3) := by decide +kernel
theorem dX4_byHand_5 : decode cX4_byHand 5 = .ok (.ifCond .eq 13, 3) := by decide +kernel
theorem dX4_byHand_8 : decode cX4_byHand 8 = .ok (.iload_n 2, 1) := by decide +kernel
theorem dX4_byHand_9 : decode cX4_byHand 9 = .ok (.iconst (-1), 1) := by decide +kernel
theorem dX4_byHand_10 : decode cX4_byHand 10 = .ok (.bipush 10, 2) := by decide +kernel
theorem dX4_byHand_12 : decode cX4_byHand 12 = .ok (.invokestatic 93, 3) := by decide +kernel
theorem dX4_byHand_15 : decode cX4_byHand 15 = .ok (.ifCond .ne 7, 3) := by decide +kernel
theorem dX4_byHand_18 : decode cX4_byHand 18 = .ok (.iconst 1, 1) := by decide +kernel
theorem dX4_byHand_19 : decode cX4_byHand 19 = .ok (.goto 22, 3) := by decide +kernel
theorem dX4_byHand_22 : decode cX4_byHand 22 = .ok (.iload_n 2, 1) := by decide +kernel
theorem dX4_byHand_23 : decode cX4_byHand 23 = .ok (.iconst (-1), 1) := by decide +kernel
theorem dX4_byHand_24 : decode cX4_byHand 24 = .ok (.if_icmp .ne 16, 3) := by decide +kernel
theorem dX4_byHand_27 : decode cX4_byHand 27 = .ok (.aload_n 0, 1) := by decide +kernel
theorem dX4_byHand_28 : decode cX4_byHand 28 = .ok (.getfield 49, 3) := by decide +kernel
theorem dX4_byHand_31 : decode cX4_byHand 31 = .ok (.iload_n 1, 1) := by decide +kernel
theorem dX4_byHand_32 : decode cX4_byHand 32 = .ok (.baload, 1) := by decide +kernel
theorem dX4_byHand_33 : decode cX4_byHand 33 = .ok (.ifCond .ne 7, 3) := by decide +kernel
theorem dX4_byHand_36 : decode cX4_byHand 36 = .ok (.iconst 2, 1) := by decide +kernel
theorem dX4_byHand_37 : decode cX4_byHand 37 = .ok (.goto 4, 3) := by decide +kernel
theorem dX4_byHand_40 : decode cX4_byHand 40 = .ok (.iconst 0, 1) := by decide +kernel
theorem dX4_byHand_41 : decode cX4_byHand 41 = .ok (.invokevirtual 101, 3) := by decide +kernel
theorem dX4_byHand_44 : decode cX4_byHand 44 = .ok (.ifCond .ne 5, 3) := by decide +kernel
theorem dX4_byHand_47 : decode cX4_byHand 47 = .ok (.iconst 0, 1) := by decide +kernel
theorem dX4_byHand_48 : decode cX4_byHand 48 = .ok (.ireturn, 1) := by decide +kernel
theorem dX4_byHand_49 : decode cX4_byHand 49 = .ok (.aload_n 0, 1) := by decide +kernel
theorem dX4_byHand_50 : decode cX4_byHand 50 = .ok (.getfield 19, 3) := by decide +kernel
theorem dX4_byHand_53 : decode cX4_byHand 53 = .ok (.iload_n 1, 1) := by decide +kernel
theorem dX4_byHand_54 : decode cX4_byHand 54 = .ok (.iaload, 1) := by decide +kernel
theorem dX4_byHand_55 : decode cX4_byHand 55 = .ok (.istore_n 3, 1) := by decide +kernel
theorem dX4_byHand_56 : decode cX4_byHand 56 = .ok (.aload_n 0, 1) := by decide +kernel
theorem dX4_byHand_57 : decode cX4_byHand 57 = .ok (.getfield 49, 3) := by decide +kernel
theorem dX4_byHand_60 : decode cX4_byHand 60 = .ok (.iload_n 1, 1) := by decide +kernel
theorem dX4_byHand_61 : decode cX4_byHand 61 = .ok (.iload_n 2, 1) := by decide +kernel
theorem dX4_byHand_62 : decode cX4_byHand 62 = .ok (.iconst (-1), 1) := by decide +kernel
theorem dX4_byHand_63 : decode cX4_byHand 63 = .ok (.if_icmp .eq 7, 3) := by decide +kernel
theorem dX4_byHand_66 : decode cX4_byHand 66 = .ok (.iconst 1, 1) := by decide +kernel
theorem dX4_byHand_67 : decode cX4_byHand 67 = .ok (.goto 4, 3) := by decide +kernel
theorem dX4_byHand_70 : decode cX4_byHand 70 = .ok (.iconst 0, 1) := by decide +kernel
theorem dX4_byHand_71 : decode cX4_byHand 71 = .ok (.bastore, 1) := by decide +kernel
theorem dX4_byHand_72 : decode cX4_byHand 72 = .ok (.aload_n 0, 1) := by decide +kernel
theorem dX4_byHand_73 : decode cX4_byHand 73 = .ok (.getfield 19, 3) := by decide +kernel
theorem dX4_byHand_76 : decode cX4_byHand 76 = .ok (.iload_n 1, 1) := by decide +kernel
theorem dX4_byHand_77 : decode cX4_byHand 77 = .ok (.iload_n 2, 1) := by decide +kernel
theorem dX4_byHand_78 : decode cX4_byHand 78 = .ok (.iconst (-1), 1) := by decide +kernel
theorem dX4_byHand_79 : decode cX4_byHand 79 = .ok (.if_icmp .ne 7, 3) := by decide +kernel
theorem dX4_byHand_82 : decode cX4_byHand 82 = .ok (.iload_n 3, 1) := by decide +kernel
theorem dX4_byHand_83 : decode cX4_byHand 83 = .ok (.goto 4, 3) := by decide +kernel
theorem dX4_byHand_86 : decode cX4_byHand 86 = .ok (.iload_n 2, 1) := by decide +kernel
theorem dX4_byHand_87 : decode cX4_byHand 87 = .ok (.iastore, 1) := by decide +kernel
theorem dX4_byHand_88 : decode cX4_byHand 88 = .ok (.iload_n 3, 1) := by decide +kernel
theorem dX4_byHand_89 : decode cX4_byHand 89 = .ok (.ireturn, 1) := by decide +kernel
set_option maxRecDepth 20000 in
theorem ggX4_opening_X4_asks : GoodIn wsX4_opening wsX4_asks := goodIn_r _ [6, 7, 8, 5, 9, 10, 11, 12, 13, 14, 15, 16, 17, 18, 19, 20, 21, 22, 23, 24, 25, 26, 27, 28, 29, 30, 31, 32, 33, 34, 35, 36, 37, 38, 39, 40, 41, 42, 43, 44, 45, 46, 47] (by decide +kernel) (by decide +kernel)
set_option maxRecDepth 20000 in
theorem gX4_opening_X4_asks : GoodIn wsX4_opening (wsV RX4 107 RX4 yX4_asks wsX4_asks) := goodIn_app (goodIn_of _ (by decide +kernel)) ggX4_opening_X4_asks
theorem dX4_opening_0 : decode cX4_opening 0 = .ok (.aload_n 0, 1) := by decide +kernel
theorem dX4_opening_1 : decode cX4_opening 1 = .ok (.iload_n 1, 1) := by decide +kernel
theorem dX4_opening_2 : decode cX4_opening 2 = .ok (.invokevirtual 107, 3) := by decide +kernel
theorem dX4_opening_5 : decode cX4_opening 5 = .ok (.ifCond .eq 12, 3) := by decide +kernel
theorem dX4_opening_8 : decode cX4_opening 8 = .ok (.aload_n 0, 1) := by decide +kernel
theorem dX4_opening_9 : decode cX4_opening 9 = .ok (.getfield 19, 3) := by decide +kernel
theorem dX4_opening_12 : decode cX4_opening 12 = .ok (.iload_n 1, 1) := by decide +kernel
theorem dX4_opening_13 : decode cX4_opening 13 = .ok (.iaload, 1) := by decide +kernel
theorem dX4_opening_14 : decode cX4_opening 14 = .ok (.goto 4, 3) := by decide +kernel
theorem dX4_opening_17 : decode cX4_opening 17 = .ok (.iconst 0, 1) := by decide +kernel
theorem dX4_opening_18 : decode cX4_opening 18 = .ok (.ireturn, 1) := by decide +kernel
set_option maxRecDepth 20000 in
theorem ggX4_safety_X4_asks : GoodIn wsX4_safety wsX4_asks := goodIn_r _ [6, 7, 8, 5, 9, 10, 11, 12, 13, 14, 15, 16, 17, 18, 19, 20, 21, 22, 23, 24, 25, 26, 27, 28, 29, 30, 31, 32, 33, 34, 35, 36, 37, 38, 39, 40, 41, 42, 43, 44, 45, 46, 47] (by decide +kernel) (by decide +kernel)
set_option maxRecDepth 20000 in
theorem gX4_safety_X4_asks : GoodIn wsX4_safety (wsV RX4 107 RX4 yX4_asks wsX4_asks) := goodIn_app (goodIn_of _ (by decide +kernel)) ggX4_safety_X4_asks
theorem dX4_safety_0 : decode cX4_safety 0 = .ok (.aload_n 0, 1) := by decide +kernel
theorem dX4_safety_1 : decode cX4_safety 1 = .ok (.iload_n 1, 1) := by decide +kernel
theorem dX4_safety_2 : decode cX4_safety 2 = .ok (.invokevirtual 107, 3) := by decide +kernel
theorem dX4_safety_5 : decode cX4_safety 5 = .ok (.ifCond .eq 12, 3) := by decide +kernel
theorem dX4_safety_8 : decode cX4_safety 8 = .ok (.aload_n 0, 1) := by decide +kernel
theorem dX4_safety_9 : decode cX4_safety 9 = .ok (.getfield 53, 3) := by decide +kernel
theorem dX4_safety_12 : decode cX4_safety 12 = .ok (.iload_n 1, 1) := by decide +kernel
theorem dX4_safety_13 : decode cX4_safety 13 = .ok (.iaload, 1) := by decide +kernel
theorem dX4_safety_14 : decode cX4_safety 14 = .ok (.goto 4, 3) := by decide +kernel
theorem dX4_safety_17 : decode cX4_safety 17 = .ok (.iconst 0, 1) := by decide +kernel
theorem dX4_safety_18 : decode cX4_safety 18 = .ok (.ireturn, 1) := by decide +kernel
set_option maxRecDepth 20000 in
theorem ggX4_fall_X4_isOne : GoodIn wsX4_fall wsX4_isOne := goodIn_r _ [5, 6, 7, 4, 8] (by decide +kernel) (by decide +kernel)
set_option maxRecDepth 20000 in
theorem gX4_fall_X4_isOne : GoodIn wsX4_fall (va_wsS RX4 97 yX4_isOne wsX4_isOne) := goodIn_app (goodIn_of _ (by decide +kernel)) ggX4_fall_X4_isOne
set_option maxRecDepth 20000 in
theorem ggX4_fall_X4_goes : GoodIn wsX4_fall wsX4_goes := goodIn_r _ [12, 13, 14, 15, 16, 17, 18, 19, 20, 21, 22, 23, 24, 25, 26, 27, 28, 29, 30, 31, 32, 33, 34, 35, 36, 37, 38, 39, 40, 41, 42, 43] (by decide +kernel) (by decide +kernel)
set_option maxRecDepth 20000 in
theorem gX4_fall_X4_goes : GoodIn wsX4_fall (wsV RX4 101 RX4 yX4_goes wsX4_goes) := goodIn_app (goodIn_of _ (by decide +kernel)) ggX4_fall_X4_goes
theorem dX4_fall_0 : decode cX4_fall 0 = .ok (.aload_n 0, 1) := by decide +kernel
theorem dX4_fall_1 : decode cX4_fall 1 = .ok (.iload_n 1, 1) := by decide +kernel
theorem dX4_fall_2 : decode cX4_fall 2 = .ok (.invokestatic 97, 3) := by decide +kernel
theorem dX4_fall_5 : decode cX4_fall 5 = .ok (.ifCond .ne 7, 3) := by decide +kernel
theorem dX4_fall_8 : decode cX4_fall 8 = .ok (.iconst 1, 1) := by decide +kernel
theorem dX4_fall_9 : decode cX4_fall 9 = .ok (.goto 17, 3) := by decide +kernel
theorem dX4_fall_12 : decode cX4_fall 12 = .ok (.aload_n 0, 1) := by decide +kernel
theorem dX4_fall_13 : decode cX4_fall 13 = .ok (.getfield 56, 3) := by decide +kernel
theorem dX4_fall_16 : decode cX4_fall 16 = .ok (.iload_n 1, 1) := by decide +kernel
theorem dX4_fall_17 : decode cX4_fall 17 = .ok (.baload, 1) := by decide +kernel
theorem dX4_fall_18 : decode cX4_fall 18 = .ok (.ifCond .eq 7, 3) := by decide +kernel
theorem dX4_fall_21 : decode cX4_fall 21 = .ok (.iconst 2, 1) := by decide +kernel
theorem dX4_fall_22 : decode cX4_fall 22 = .ok (.goto 4, 3) := by decide +kernel
theorem dX4_fall_25 : decode cX4_fall 25 = .ok (.iconst 0, 1) := by decide +kernel
theorem dX4_fall_26 : decode cX4_fall 26 = .ok (.invokevirtual 101, 3) := by decide +kernel
theorem dX4_fall_29 : decode cX4_fall 29 = .ok (.ifCond .eq 10, 3) := by decide +kernel
theorem dX4_fall_32 : decode cX4_fall 32 = .ok (.aload_n 0, 1) := by decide +kernel
theorem dX4_fall_33 : decode cX4_fall 33 = .ok (.getfield 56, 3) := by decide +kernel
theorem dX4_fall_36 : decode cX4_fall 36 = .ok (.iload_n 1, 1) := by decide +kernel
theorem dX4_fall_37 : decode cX4_fall 37 = .ok (.iconst 1, 1) := by decide +kernel
theorem dX4_fall_38 : decode cX4_fall 38 = .ok (.bastore, 1) := by decide +kernel
theorem dX4_fall_39 : decode cX4_fall 39 = .ok (.return_, 1) := by decide +kernel
set_option maxRecDepth 20000 in
theorem ggX4_comeUp_X4_isOne : GoodIn wsX4_comeUp wsX4_isOne := goodIn_r _ [7, 8, 9, 6, 10] (by decide +kernel) (by decide +kernel)
set_option maxRecDepth 20000 in
theorem gX4_comeUp_X4_isOne : GoodIn wsX4_comeUp (va_wsS RX4 97 yX4_isOne wsX4_isOne) := goodIn_app (goodIn_of _ (by decide +kernel)) ggX4_comeUp_X4_isOne
set_option maxRecDepth 20000 in
theorem ggX4_comeUp_X4_goes : GoodIn wsX4_comeUp wsX4_goes := goodIn_r _ [14, 15, 19, 20, 21, 22, 23, 24, 25, 26, 27, 28, 29, 30, 31, 32, 33, 34, 35, 36, 37, 38, 39, 40, 41, 42, 43, 44, 45, 46, 47, 48] (by decide +kernel) (by decide +kernel)
set_option maxRecDepth 20000 in
theorem gX4_comeUp_X4_goes : GoodIn wsX4_comeUp (wsV RX4 101 RX4 yX4_goes wsX4_goes) := goodIn_app (goodIn_of _ (by decide +kernel)) ggX4_comeUp_X4_goes
set_option maxRecDepth 20000 in
theorem ggX4_comeUp_X4_at : GoodIn wsX4_comeUp wsX4_at := goodIn_r _ [18] (by decide +kernel) (by decide +kernel)
set_option maxRecDepth 20000 in
theorem gX4_comeUp_X4_at : GoodIn wsX4_comeUp (va_wsS RX4 114 yX4_at wsX4_at) := goodIn_app (goodIn_of _ (by decide +kernel)) ggX4_comeUp_X4_at
theorem dX4_comeUp_0 : decode cX4_comeUp 0 = .ok (.aload_n 0, 1) := by decide +kernel
theorem dX4_comeUp_1 : decode cX4_comeUp 1 = .ok (.iload_n 1, 1) := by decide +kernel
theorem dX4_comeUp_2 : decode cX4_comeUp 2 = .ok (.invokestatic 97, 3) := by decide +kernel
theorem dX4_comeUp_5 : decode cX4_comeUp 5 = .ok (.ifCond .ne 7, 3) := by decide +kernel
theorem dX4_comeUp_8 : decode cX4_comeUp 8 = .ok (.iconst 1, 1) := by decide +kernel
theorem dX4_comeUp_9 : decode cX4_comeUp 9 = .ok (.goto 17, 3) := by decide +kernel
theorem dX4_comeUp_12 : decode cX4_comeUp 12 = .ok (.aload_n 0, 1) := by decide +kernel
theorem dX4_comeUp_13 : decode cX4_comeUp 13 = .ok (.getfield 56, 3) := by decide +kernel
theorem dX4_comeUp_16 : decode cX4_comeUp 16 = .ok (.iload_n 1, 1) := by decide +kernel
theorem dX4_comeUp_17 : decode cX4_comeUp 17 = .ok (.baload, 1) := by decide +kernel
theorem dX4_comeUp_18 : decode cX4_comeUp 18 = .ok (.ifCond .eq 7, 3) := by decide +kernel
theorem dX4_comeUp_21 : decode cX4_comeUp 21 = .ok (.iconst 0, 1) := by decide +kernel
theorem dX4_comeUp_22 : decode cX4_comeUp 22 = .ok (.goto 4, 3) := by decide +kernel
theorem dX4_comeUp_25 : decode cX4_comeUp 25 = .ok (.iconst 2, 1) := by decide +kernel
theorem dX4_comeUp_26 : decode cX4_comeUp 26 = .ok (.invokevirtual 101, 3) := by decide +kernel
theorem dX4_comeUp_29 : decode cX4_comeUp 29 = .ok (.ifCond .eq 38, 3) := by decide +kernel
theorem dX4_comeUp_32 : decode cX4_comeUp 32 = .ok (.aload_n 0, 1) := by decide +kernel
theorem dX4_comeUp_33 : decode cX4_comeUp 33 = .ok (.getfield 56, 3) := by decide +kernel
theorem dX4_comeUp_36 : decode cX4_comeUp 36 = .ok (.iload_n 1, 1) := by decide +kernel
theorem dX4_comeUp_37 : decode cX4_comeUp 37 = .ok (.iconst 0, 1) := by decide +kernel
theorem dX4_comeUp_38 : decode cX4_comeUp 38 = .ok (.bastore, 1) := by decide +kernel
theorem dX4_comeUp_39 : decode cX4_comeUp 39 = .ok (.iconst 0, 1) := by decide +kernel
theorem dX4_comeUp_40 : decode cX4_comeUp 40 = .ok (.istore_n 2, 1) := by decide +kernel
theorem dX4_comeUp_41 : decode cX4_comeUp 41 = .ok (.iload_n 2, 1) := by decide +kernel
theorem dX4_comeUp_42 : decode cX4_comeUp 42 = .ok (.bipush 8, 2) := by decide +kernel
theorem dX4_comeUp_44 : decode cX4_comeUp 44 = .ok (.if_icmp .ge 23, 3) := by decide +kernel
theorem dX4_comeUp_47 : decode cX4_comeUp 47 = .ok (.aload_n 0, 1) := by decide +kernel
theorem dX4_comeUp_48 : decode cX4_comeUp 48 = .ok (.getfield 77, 3) := by decide +kernel
theorem dX4_comeUp_51 : decode cX4_comeUp 51 = .ok (.iload_n 1, 1) := by decide +kernel
theorem dX4_comeUp_52 : decode cX4_comeUp 52 = .ok (.iload_n 2, 1) := by decide +kernel
theorem dX4_comeUp_53 : decode cX4_comeUp 53 = .ok (.invokestatic 114, 3) := by decide +kernel
theorem dX4_comeUp_56 : decode cX4_comeUp 56 = .ok (.aload_n 0, 1) := by decide +kernel
theorem dX4_comeUp_57 : decode cX4_comeUp 57 = .ok (.getfield 118, 3) := by decide +kernel
theorem dX4_comeUp_60 : decode cX4_comeUp 60 = .ok (.iastore, 1) := by decide +kernel
theorem dX4_comeUp_61 : decode cX4_comeUp 61 = .ok (.iinc 2 1, 3) := by decide +kernel
theorem dX4_comeUp_64 : decode cX4_comeUp 64 = .ok (.goto (-23), 3) := by decide +kernel
theorem dX4_comeUp_67 : decode cX4_comeUp 67 = .ok (.return_, 1) := by decide +kernel
set_option maxRecDepth 20000 in
theorem ggX4_setGroup_X4_isOne : GoodIn wsX4_setGroup wsX4_isOne := goodIn_r _ [5, 6, 7, 4, 8] (by decide +kernel) (by decide +kernel)
set_option maxRecDepth 20000 in
theorem gX4_setGroup_X4_isOne : GoodIn wsX4_setGroup (va_wsS RX4 97 yX4_isOne wsX4_isOne) := goodIn_app (goodIn_of _ (by decide +kernel)) ggX4_setGroup_X4_isOne
set_option maxRecDepth 20000 in
theorem ggX4_setGroup_X4_isIn : GoodIn wsX4_setGroup wsX4_isIn := goodIn_r _ [8] (by decide +kernel) (by decide +kernel)
set_option maxRecDepth 20000 in
theorem gX4_setGroup_X4_isIn : GoodIn wsX4_setGroup (va_wsS RX4 93 yX4_isIn wsX4_isIn) := goodIn_app (goodIn_of _ (by decide +kernel)) ggX4_setGroup_X4_isIn
set_option maxRecDepth 20000 in
theorem ggX4_setGroup_X4_goes : GoodIn wsX4_setGroup wsX4_goes := goodIn_r _ [12, 13, 14, 15, 16, 17, 18, 19, 20, 21, 22, 23, 24, 25, 26, 27, 28, 29, 30, 31, 32, 33, 34, 35, 36, 37, 38, 39, 40, 41, 42, 43] (by decide +kernel) (by decide +kernel)
set_option maxRecDepth 20000 in
theorem gX4_setGroup_X4_goes : GoodIn wsX4_setGroup (wsV RX4 101 RX4 yX4_goes wsX4_goes) := goodIn_app (goodIn_of _ (by decide +kernel)) ggX4_setGroup_X4_goes
theorem dX4_setGroup_0 : decode cX4_setGroup 0 = .ok (.aload_n 0, 1) := by decide +kernel
theorem dX4_setGroup_1 : decode cX4_setGroup 1 = .ok (.iload_n 1, 1) := by decide +kernel
theorem dX4_setGroup_2 : decode cX4_setGroup 2 = .ok (.invokestatic 97, 3) := by decide +kernel
theorem dX4_setGroup_5 : decode cX4_setGroup 5 = .ok (.ifCond .eq 16, 3) := by decide +kernel
theorem dX4_setGroup_8 : decode cX4_setGroup 8 = .ok (.iload_n 2, 1) := by decide +kernel
theorem dX4_setGroup_9 : decode cX4_setGroup 9 = .ok (.iconst 0, 1) := by decide +kernel
theorem dX4_setGroup_10 : decode cX4_setGroup 10 = .ok (.iconst 3, 1) := by decide +kernel
theorem dX4_setGroup_11 : decode cX4_setGroup 11 = .ok (.invokestatic 93, 3) := by decide +kernel
theorem dX4_setGroup_14 : decode cX4_setGroup 14 = .ok (.ifCond .eq 7, 3) := by decide +kernel
theorem dX4_setGroup_17 : decode cX4_setGroup 17 = .ok (.iconst 0, 1) := by decide +kernel
theorem dX4_setGroup_18 : decode cX4_setGroup 18 = .ok (.goto 4, 3) := by decide +kernel
theorem dX4_setGroup_21 : decode cX4_setGroup 21 = .ok (.iconst 1, 1) := by decide +kernel
theorem dX4_setGroup_22 : decode cX4_setGroup 22 = .ok (.invokevirtual 101, 3) := by decide +kernel
theorem dX4_setGroup_25 : decode cX4_setGroup 25 = .ok (.ifCond .ne 5, 3) := by decide +kernel
theorem dX4_setGroup_28 : decode cX4_setGroup 28 = .ok (.iconst 0, 1) := by decide +kernel
theorem dX4_setGroup_29 : decode cX4_setGroup 29 = .ok (.ireturn, 1) := by decide +kernel
theorem dX4_setGroup_30 : decode cX4_setGroup 30 = .ok (.aload_n 0, 1) := by decide +kernel
theorem dX4_setGroup_31 : decode cX4_setGroup 31 = .ok (.getfield 59, 3) := by decide +kernel
theorem dX4_setGroup_34 : decode cX4_setGroup 34 = .ok (.iload_n 1, 1) := by decide +kernel
theorem dX4_setGroup_35 : decode cX4_setGroup 35 = .ok (.iaload, 1) := by decide +kernel
theorem dX4_setGroup_36 : decode cX4_setGroup 36 = .ok (.istore_n 3, 1) := by decide +kernel
theorem dX4_setGroup_37 : decode cX4_setGroup 37 = .ok (.aload_n 0, 1) := by decide +kernel
theorem dX4_setGroup_38 : decode cX4_setGroup 38 = .ok (.getfield 59, 3) := by decide +kernel
theorem dX4_setGroup_41 : decode cX4_setGroup 41 = .ok (.iload_n 1, 1) := by decide +kernel
theorem dX4_setGroup_42 : decode cX4_setGroup 42 = .ok (.iload_n 2, 1) := by decide +kernel
theorem dX4_setGroup_43 : decode cX4_setGroup 43 = .ok (.iastore, 1) := by decide +kernel
theorem dX4_setGroup_44 : decode cX4_setGroup 44 = .ok (.iload_n 3, 1) := by decide +kernel
theorem dX4_setGroup_45 : decode cX4_setGroup 45 = .ok (.ireturn, 1) := by decide +kernel
set_option maxRecDepth 20000 in
theorem ggX4_setStuck_X4_asks : GoodIn wsX4_setStuck wsX4_asks := goodIn_r _ [6, 7, 8, 5, 9, 10, 11, 12, 13, 14, 15, 16, 17, 18, 19, 20, 21, 22, 23, 24, 25, 26, 27, 28, 29, 30, 31, 32, 33, 34, 35, 36, 37, 38, 39, 40, 41, 42, 43, 44, 45, 46, 47] (by decide +kernel) (by decide +kernel)
set_option maxRecDepth 20000 in
theorem gX4_setStuck_X4_asks : GoodIn wsX4_setStuck (wsV RX4 107 RX4 yX4_asks wsX4_asks) := goodIn_app (goodIn_of _ (by decide +kernel)) ggX4_setStuck_X4_asks
theorem dX4_setStuck_0 : decode cX4_setStuck 0 = .ok (.aload_n 0, 1) := by decide +kernel
theorem dX4_setStuck_1 : decode cX4_setStuck 1 = .ok (.iload_n 1, 1) := by decide +kernel
theorem dX4_setStuck_2 : decode cX4_setStuck 2 = .ok (.invokevirtual 107, 3) := by decide +kernel
theorem dX4_setStuck_5 : decode cX4_setStuck 5 = .ok (.ifCond .ne 5, 3) := by decide +kernel
theorem dX4_setStuck_8 : decode cX4_setStuck 8 = .ok (.iconst 0, 1) := by decide +kernel
theorem dX4_setStuck_9 : decode cX4_setStuck 9 = .ok (.ireturn, 1) := by decide +kernel
theorem dX4_setStuck_10 : decode cX4_setStuck 10 = .ok (.aload_n 0, 1) := by decide +kernel
theorem dX4_setStuck_11 : decode cX4_setStuck 11 = .ok (.getfield 62, 3) := by decide +kernel
theorem dX4_setStuck_14 : decode cX4_setStuck 14 = .ok (.iload_n 1, 1) := by decide +kernel
theorem dX4_setStuck_15 : decode cX4_setStuck 15 = .ok (.baload, 1) := by decide +kernel
theorem dX4_setStuck_16 : decode cX4_setStuck 16 = .ok (.istore_n 3, 1) := by decide +kernel
theorem dX4_setStuck_17 : decode cX4_setStuck 17 = .ok (.aload_n 0, 1) := by decide +kernel
theorem dX4_setStuck_18 : decode cX4_setStuck 18 = .ok (.getfield 62, 3) := by decide +kernel
theorem dX4_setStuck_21 : decode cX4_setStuck 21 = .ok (.iload_n 1, 1) := by decide +kernel
theorem dX4_setStuck_22 : decode cX4_setStuck 22 = .ok (.iload_n 2, 1) := by decide +kernel
theorem dX4_setStuck_23 : decode cX4_setStuck 23 = .ok (.bastore, 1) := by decide +kernel
theorem dX4_setStuck_24 : decode cX4_setStuck 24 = .ok (.iload_n 3, 1) := by decide +kernel
theorem dX4_setStuck_25 : decode cX4_setStuck 25 = .ok (.ireturn, 1) := by decide +kernel
set_option maxRecDepth 20000 in
theorem ggX4_setTimes_X4_isIn : GoodIn wsX4_setTimes wsX4_isIn := goodIn_r _ [6] (by decide +kernel) (by decide +kernel)
set_option maxRecDepth 20000 in
theorem gX4_setTimes_X4_isIn : GoodIn wsX4_setTimes (va_wsS RX4 93 yX4_isIn wsX4_isIn) := goodIn_app (goodIn_of _ (by decide +kernel)) ggX4_setTimes_X4_isIn
set_option maxRecDepth 20000 in
theorem ggX4_setTimes_X4_goes : GoodIn wsX4_setTimes wsX4_goes := goodIn_r _ [10, 11, 12, 13, 14, 15, 16, 17, 18, 19, 20, 21, 22, 23, 24, 25, 26, 27, 28, 29, 30, 31, 32, 33, 34, 35, 36, 37, 38, 39, 40, 41] (by decide +kernel) (by decide +kernel)
set_option maxRecDepth 20000 in
theorem gX4_setTimes_X4_goes : GoodIn wsX4_setTimes (wsV RX4 101 RX4 yX4_goes wsX4_goes) := goodIn_app (goodIn_of _ (by decide +kernel)) ggX4_setTimes_X4_goes
theorem dX4_setTimes_0 : decode cX4_setTimes 0 = .ok (.aload_n 0, 1) := by decide +kernel
theorem dX4_setTimes_1 : decode cX4_setTimes 1 = .ok (.iload_n 1, 1) := by decide +kernel
theorem dX4_setTimes_2 : decode cX4_setTimes 2 = .ok (.iconst 1, 1) := by decide +kernel
theorem dX4_setTimes_3 : decode cX4_setTimes 3 = .ok (.bipush 50, 2) := by decide +kernel
theorem dX4_setTimes_5 : decode cX4_setTimes 5 = .ok (.invokestatic 93, 3) := by decide +kernel
theorem dX4_setTimes_8 : decode cX4_setTimes 8 = .ok (.ifCond .eq 17, 3) := by decide +kernel
theorem dX4_setTimes_11 : decode cX4_setTimes 11 = .ok (.iload_n 2, 1) := by decide +kernel
theorem dX4_setTimes_12 : decode cX4_setTimes 12 = .ok (.iload_n 1, 1) := by decide +kernel
theorem dX4_setTimes_13 : decode cX4_setTimes 13 = .ok (.bipush 100, 2) := by decide +kernel
theorem dX4_setTimes_15 : decode cX4_setTimes 15 = .ok (.invokestatic 93, 3) := by decide +kernel
theorem dX4_setTimes_18 : decode cX4_setTimes 18 = .ok (.ifCond .eq 7, 3) := by decide +kernel
theorem dX4_setTimes_21 : decode cX4_setTimes 21 = .ok (.iconst 0, 1) := by decide +kernel
theorem dX4_setTimes_22 : decode cX4_setTimes 22 = .ok (.goto 4, 3) := by decide +kernel
theorem dX4_setTimes_25 : decode cX4_setTimes 25 = .ok (.iconst 1, 1) := by decide +kernel
theorem dX4_setTimes_26 : decode cX4_setTimes 26 = .ok (.invokevirtual 101, 3) := by decide +kernel
theorem dX4_setTimes_29 : decode cX4_setTimes 29 = .ok (.ifCond .eq 13, 3) := by decide +kernel
theorem dX4_setTimes_32 : decode cX4_setTimes 32 = .ok (.aload_n 0, 1) := by decide +kernel
theorem dX4_setTimes_33 : decode cX4_setTimes 33 = .ok (.iload_n 1, 1) := by decide +kernel
theorem dX4_setTimes_34 : decode cX4_setTimes 34 = .ok (.putfield 83, 3) := by decide +kernel
theorem dX4_setTimes_37 : decode cX4_setTimes 37 = .ok (.aload_n 0, 1) := by decide +kernel
theorem dX4_setTimes_38 : decode cX4_setTimes 38 = .ok (.iload_n 2, 1) := by decide +kernel
theorem dX4_setTimes_39 : decode cX4_setTimes 39 = .ok (.putfield 87, 3) := by decide +kernel
theorem dX4_setTimes_42 : decode cX4_setTimes 42 = .ok (.return_, 1) := by decide +kernel
set_option maxRecDepth 20000 in
theorem ggX4_hasNews_X4_at : GoodIn wsX4_hasNews wsX4_at := goodIn_r _ [5] (by decide +kernel) (by decide +kernel)
set_option maxRecDepth 20000 in
theorem gX4_hasNews_X4_at : GoodIn wsX4_hasNews (va_wsS RX4 114 yX4_at wsX4_at) := goodIn_app (goodIn_of _ (by decide +kernel)) ggX4_hasNews_X4_at
theorem dX4_hasNews_0 : decode cX4_hasNews 0 = .ok (.aload_n 0, 1) := by decide +kernel
theorem dX4_hasNews_1 : decode cX4_hasNews 1 = .ok (.getfield 65, 3) := by decide +kernel
theorem dX4_hasNews_4 : decode cX4_hasNews 4 = .ok (.iload_n 1, 1) := by decide +kernel
theorem dX4_hasNews_5 : decode cX4_hasNews 5 = .ok (.iload_n 2, 1) := by decide +kernel
theorem dX4_hasNews_6 : decode cX4_hasNews 6 = .ok (.invokestatic 114, 3) := by decide +kernel
theorem dX4_hasNews_9 : decode cX4_hasNews 9 = .ok (.iaload, 1) := by decide +kernel
theorem dX4_hasNews_10 : decode cX4_hasNews 10 = .ok (.ifCond .le 7, 3) := by decide +kernel
theorem dX4_hasNews_13 : decode cX4_hasNews 13 = .ok (.iconst 1, 1) := by decide +kernel
theorem dX4_hasNews_14 : decode cX4_hasNews 14 = .ok (.goto 4, 3) := by decide +kernel
theorem dX4_hasNews_17 : decode cX4_hasNews 17 = .ok (.iconst 0, 1) := by decide +kernel
theorem dX4_hasNews_18 : decode cX4_hasNews 18 = .ok (.ireturn, 1) := by decide +kernel
set_option maxRecDepth 20000 in
theorem ggX4_believed_X4_ask : GoodIn wsX4_believed wsX4_ask := goodIn_r _ [6, 7, 8, 5, 9, 10, 11, 12, 13, 14, 15, 16, 17, 26, 27, 28, 29, 30, 31, 32, 33, 34, 35, 36, 37, 38, 39, 40, 41, 42, 43, 44, 45, 46, 47, 48, 49, 50, 51, 52, 53, 54, 55] (by decide +kernel) (by decide +kernel)
set_option maxRecDepth 20000 in
theorem gX4_believed_X4_ask : GoodIn wsX4_believed (wsV RX4 121 RX4 yX4_ask wsX4_ask) := goodIn_app (goodIn_of _ (by decide +kernel)) ggX4_believed_X4_ask
set_option maxRecDepth 20000 in
theorem ggX4_believed_X4_hasNews : GoodIn wsX4_believed wsX4_hasNews := goodIn_r _ [21, 22, 23, 24, 5, 25, 26, 27, 28, 29, 30, 31, 32, 33, 34, 35, 36, 37, 38, 39, 40, 41, 42, 43, 44, 45, 46, 47, 48, 49, 50, 51, 52, 53, 54, 55] (by decide +kernel) (by decide +kernel)
set_option maxRecDepth 20000 in
theorem gX4_believed_X4_hasNews : GoodIn wsX4_believed (wsV RX4 125 RX4 yX4_hasNews wsX4_hasNews) := goodIn_app (goodIn_of _ (by decide +kernel)) ggX4_believed_X4_hasNews
set_option maxRecDepth 20000 in
theorem ggX4_believed_X4_at : GoodIn wsX4_believed wsX4_at := goodIn_r _ [25] (by decide +kernel) (by decide +kernel)
set_option maxRecDepth 20000 in
theorem gX4_believed_X4_at : GoodIn wsX4_believed (va_wsS RX4 114 yX4_at wsX4_at) := goodIn_app (goodIn_of _ (by decide +kernel)) ggX4_believed_X4_at
theorem dX4_believed_0 : decode cX4_believed 0 = .ok (.aload_n 0, 1) := by decide +kernel
theorem dX4_believed_1 : decode cX4_believed 1 = .ok (.iload_n 1, 1) := by decide +kernel
theorem dX4_believed_2 : decode cX4_believed 2 = .ok (.iload_n 2, 1) := by decide +kernel
theorem dX4_believed_3 : decode cX4_believed 3 = .ok (.invokevirtual 121, 3) := by decide +kernel
theorem dX4_believed_6 : decode cX4_believed 6 = .ok (.ifCond .ne 7, 3) := by decide +kernel
theorem dX4_believed_9 : decode cX4_believed 9 = .ok (.iconst 0, 1) := by decide +kernel
theorem dX4_believed_10 : decode cX4_believed 10 = .ok (.goto 26, 3) := by decide +kernel
theorem dX4_believed_13 : decode cX4_believed 13 = .ok (.aload_n 0, 1) := by decide +kernel
theorem dX4_believed_14 : decode cX4_believed 14 = .ok (.iload_n 1, 1) := by decide +kernel
theorem dX4_believed_15 : decode cX4_believed 15 = .ok (.iload_n 2, 1) := by decide +kernel
theorem dX4_believed_16 : decode cX4_believed 16 = .ok (.invokevirtual 125, 3) := by decide +kernel
theorem dX4_believed_19 : decode cX4_believed 19 = .ok (.ifCond .eq 16, 3) := by decide +kernel
theorem dX4_believed_22 : decode cX4_believed 22 = .ok (.aload_n 0, 1) := by decide +kernel
theorem dX4_believed_23 : decode cX4_believed 23 = .ok (.getfield 68, 3) := by decide +kernel
theorem dX4_believed_26 : decode cX4_believed 26 = .ok (.iload_n 1, 1) := by decide +kernel
theorem dX4_believed_27 : decode cX4_believed 27 = .ok (.iload_n 2, 1) := by decide +kernel
theorem dX4_believed_28 : decode cX4_believed 28 = .ok (.invokestatic 114, 3) := by decide +kernel
theorem dX4_believed_31 : decode cX4_believed 31 = .ok (.iaload, 1) := by decide +kernel
theorem dX4_believed_32 : decode cX4_believed 32 = .ok (.goto 4, 3) := by decide +kernel
theorem dX4_believed_35 : decode cX4_believed 35 = .ok (.iconst (-1), 1) := by decide +kernel
theorem dX4_believed_36 : decode cX4_believed 36 = .ok (.ireturn, 1) := by decide +kernel
set_option maxRecDepth 20000 in
theorem ggX4_version_X4_ask : GoodIn wsX4_version wsX4_ask := goodIn_r _ [6, 7, 8, 5, 9, 10, 11, 12, 13, 14, 15, 16, 17, 21, 22, 23, 24, 25, 26, 27, 28, 29, 30, 31, 32, 33, 34, 35, 36, 37, 38, 39, 40, 41, 42, 43, 44, 45, 46, 47, 48, 49, 50] (by decide +kernel) (by decide +kernel)
set_option maxRecDepth 20000 in
theorem gX4_version_X4_ask : GoodIn wsX4_version (wsV RX4 121 RX4 yX4_ask wsX4_ask) := goodIn_app (goodIn_of _ (by decide +kernel)) ggX4_version_X4_ask
set_option maxRecDepth 20000 in
theorem ggX4_version_X4_at : GoodIn wsX4_version wsX4_at := goodIn_r _ [20] (by decide +kernel) (by decide +kernel)
set_option maxRecDepth 20000 in
theorem gX4_version_X4_at : GoodIn wsX4_version (va_wsS RX4 114 yX4_at wsX4_at) := goodIn_app (goodIn_of _ (by decide +kernel)) ggX4_version_X4_at
theorem dX4_version_0 : decode cX4_version 0 = .ok (.aload_n 0, 1) := by decide +kernel
theorem dX4_version_1 : decode cX4_version 1 = .ok (.iload_n 1, 1) := by decide +kernel
theorem dX4_version_2 : decode cX4_version 2 = .ok (.iload_n 2, 1) := by decide +kernel
theorem dX4_version_3 : decode cX4_version 3 = .ok (.invokevirtual 121, 3) := by decide +kernel
theorem dX4_version_6 : decode cX4_version 6 = .ok (.ifCond .eq 16, 3) := by decide +kernel
theorem dX4_version_9 : decode cX4_version 9 = .ok (.aload_n 0, 1) := by decide +kernel
theorem dX4_version_10 : decode cX4_version 10 = .ok (.getfield 65, 3) := by decide +kernel
theorem dX4_version_13 : decode cX4_version 13 = .ok (.iload_n 1, 1) := by decide +kernel
theorem dX4_version_14 : decode cX4_version 14 = .ok (.iload_n 2, 1) := by decide +kernel
theorem dX4_version_15 : decode cX4_version 15 = .ok (.invokestatic 114, 3) := by decide +kernel
theorem dX4_version_18 : decode cX4_version 18 = .ok (.iaload, 1) := by decide +kernel
theorem dX4_version_19 : decode cX4_version 19 = .ok (.goto 4, 3) := by decide +kernel
theorem dX4_version_22 : decode cX4_version 22 = .ok (.iconst 0, 1) := by decide +kernel
theorem dX4_version_23 : decode cX4_version 23 = .ok (.ireturn, 1) := by decide +kernel
set_option maxRecDepth 20000 in
theorem ggX4_ageOf_X4_hasNews : GoodIn wsX4_ageOf wsX4_hasNews := goodIn_r _ [7, 8, 9, 10, 6, 11, 12, 13, 14, 15, 16, 17, 18, 19, 20, 21, 22, 23, 24, 25, 26, 27, 28, 29, 30, 31, 32, 33, 34, 35, 36, 37, 38, 39, 40, 41] (by decide +kernel) (by decide +kernel)
set_option maxRecDepth 20000 in
theorem gX4_ageOf_X4_hasNews : GoodIn wsX4_ageOf (wsV RX4 125 RX4 yX4_hasNews wsX4_hasNews) := goodIn_app (goodIn_of _ (by decide +kernel)) ggX4_ageOf_X4_hasNews
set_option maxRecDepth 20000 in
theorem ggX4_ageOf_X4_at : GoodIn wsX4_ageOf wsX4_at := goodIn_r _ [11] (by decide +kernel) (by decide +kernel)
set_option maxRecDepth 20000 in
theorem gX4_ageOf_X4_at : GoodIn wsX4_ageOf (va_wsS RX4 114 yX4_at wsX4_at) := goodIn_app (goodIn_of _ (by decide +kernel)) ggX4_ageOf_X4_at
theorem dX4_ageOf_0 : decode cX4_ageOf 0 = .ok (.aload_n 0, 1) := by decide +kernel
theorem dX4_ageOf_1 : decode cX4_ageOf 1 = .ok (.iload_n 1, 1) := by decide +kernel
theorem dX4_ageOf_2 : decode cX4_ageOf 2 = .ok (.iload_n 2, 1) := by decide +kernel
theorem dX4_ageOf_3 : decode cX4_ageOf 3 = .ok (.invokevirtual 125, 3) := by decide +kernel
theorem dX4_ageOf_6 : decode cX4_ageOf 6 = .ok (.ifCond .eq 21, 3) := by decide +kernel
theorem dX4_ageOf_9 : decode cX4_ageOf 9 = .ok (.aload_n 0, 1) := by decide +kernel
theorem dX4_ageOf_10 : decode cX4_ageOf 10 = .ok (.getfield 118, 3) := by decide +kernel
theorem dX4_ageOf_13 : decode cX4_ageOf 13 = .ok (.aload_n 0, 1) := by decide +kernel
theorem dX4_ageOf_14 : decode cX4_ageOf 14 = .ok (.getfield 71, 3) := by decide +kernel
theorem dX4_ageOf_17 : decode cX4_ageOf 17 = .ok (.iload_n 1, 1) := by decide +kernel
theorem dX4_ageOf_18 : decode cX4_ageOf 18 = .ok (.iload_n 2, 1) := by decide +kernel
theorem dX4_ageOf_19 : decode cX4_ageOf 19 = .ok (.invokestatic 114, 3) := by decide +kernel
theorem dX4_ageOf_22 : decode cX4_ageOf 22 = .ok (.iaload, 1) := by decide +kernel
theorem dX4_ageOf_23 : decode cX4_ageOf 23 = .ok (.isub, 1) := by decide +kernel
theorem dX4_ageOf_24 : decode cX4_ageOf 24 = .ok (.goto 4, 3) := by decide +kernel
theorem dX4_ageOf_27 : decode cX4_ageOf 27 = .ok (.iconst (-1), 1) := by decide +kernel
theorem dX4_ageOf_28 : decode cX4_ageOf 28 = .ok (.ireturn, 1) := by decide +kernel
set_option maxRecDepth 20000 in
theorem ggX4_age_X4_ask : GoodIn wsX4_age wsX4_ask := goodIn_r _ [5, 6, 7, 4, 8, 9, 10, 11, 12, 13, 14, 15, 16, 31, 32, 33, 34, 35, 36, 37, 38, 39, 40, 41, 42, 43, 44, 45, 46, 47, 48, 49, 50, 51, 52, 53, 54, 55, 56, 57, 58, 59, 60] (by decide +kernel) (by decide +kernel)
set_option maxRecDepth 20000 in
theorem gX4_age_X4_ask : GoodIn wsX4_age (wsV RX4 121 RX4 yX4_ask wsX4_ask) := goodIn_app (goodIn_of _ (by decide +kernel)) ggX4_age_X4_ask
set_option maxRecDepth 20000 in
theorem ggX4_age_X4_ageOf : GoodIn wsX4_age wsX4_ageOf := goodIn_r _ [20, 21, 22, 23, 24, 25, 4, 26, 27, 28, 29, 30, 31, 32, 33, 34, 35, 36, 37, 38, 39, 40, 41, 42, 43, 44, 45, 46, 47, 48, 49, 50, 51, 52, 53, 54, 55, 56, 57, 58, 59, 60] (by decide +kernel) (by decide +kernel)
set_option maxRecDepth 20000 in
theorem gX4_age_X4_ageOf : GoodIn wsX4_age (wsV RX4 128 RX4 yX4_ageOf wsX4_ageOf) := goodIn_app (goodIn_of _ (by decide +kernel)) ggX4_age_X4_ageOf
theorem dX4_age_0 : decode cX4_age 0 = .ok (.aload_n 0, 1) := by decide +kernel
theorem dX4_age_1 : decode cX4_age 1 = .ok (.iload_n 1, 1) := by decide +kernel
theorem dX4_age_2 : decode cX4_age 2 = .ok (.iload_n 2, 1) := by decide +kernel
theorem dX4_age_3 : decode cX4_age 3 = .ok (.invokevirtual 121, 3) := by decide +kernel
theorem dX4_age_6 : decode cX4_age 6 = .ok (.ifCond .eq 12, 3) := by decide +kernel
theorem dX4_age_9 : decode cX4_age 9 = .ok (.aload_n 0, 1) := by decide +kernel
theorem dX4_age_10 : decode cX4_age 10 = .ok (.iload_n 1, 1) := by decide +kernel
theorem dX4_age_11 : decode cX4_age 11 = .ok (.iload_n 2, 1) := by decide +kernel
theorem dX4_age_12 : decode cX4_age 12 = .ok (.invokevirtual 128, 3) := by decide +kernel
theorem dX4_age_15 : decode cX4_age 15 = .ok (.goto 4, 3) := by decide +kernel
theorem dX4_age_18 : decode cX4_age 18 = .ok (.iconst 0, 1) := by decide +kernel
theorem dX4_age_19 : decode cX4_age 19 = .ok (.ireturn, 1) := by decide +kernel
set_option maxRecDepth 20000 in
theorem ggX4_beat_X4_ask : GoodIn wsX4_beat wsX4_ask := goodIn_r _ [6, 7, 8, 5, 9, 10, 11, 12, 13, 14, 15, 16, 17, 21, 22, 23, 24, 25, 26, 27, 28, 29, 30, 31, 32, 33, 34, 35, 36, 37, 38, 39, 40, 41, 42, 43, 44, 45, 46, 47, 48, 49, 50] (by decide +kernel) (by decide +kernel)
set_option maxRecDepth 20000 in
theorem gX4_beat_X4_ask : GoodIn wsX4_beat (wsV RX4 121 RX4 yX4_ask wsX4_ask) := goodIn_app (goodIn_of _ (by decide +kernel)) ggX4_beat_X4_ask
set_option maxRecDepth 20000 in
theorem ggX4_beat_X4_at : GoodIn wsX4_beat wsX4_at := goodIn_r _ [20] (by decide +kernel) (by decide +kernel)
set_option maxRecDepth 20000 in
theorem gX4_beat_X4_at : GoodIn wsX4_beat (va_wsS RX4 114 yX4_at wsX4_at) := goodIn_app (goodIn_of _ (by decide +kernel)) ggX4_beat_X4_at
theorem dX4_beat_0 : decode cX4_beat 0 = .ok (.aload_n 0, 1) := by decide +kernel
theorem dX4_beat_1 : decode cX4_beat 1 = .ok (.iload_n 1, 1) := by decide +kernel
theorem dX4_beat_2 : decode cX4_beat 2 = .ok (.iload_n 2, 1) := by decide +kernel
theorem dX4_beat_3 : decode cX4_beat 3 = .ok (.invokevirtual 121, 3) := by decide +kernel
theorem dX4_beat_6 : decode cX4_beat 6 = .ok (.ifCond .eq 16, 3) := by decide +kernel
theorem dX4_beat_9 : decode cX4_beat 9 = .ok (.aload_n 0, 1) := by decide +kernel
theorem dX4_beat_10 : decode cX4_beat 10 = .ok (.getfield 74, 3) := by decide +kernel
theorem dX4_beat_13 : decode cX4_beat 13 = .ok (.iload_n 1, 1) := by decide +kernel
theorem dX4_beat_14 : decode cX4_beat 14 = .ok (.iload_n 2, 1) := by decide +kernel
theorem dX4_beat_15 : decode cX4_beat 15 = .ok (.invokestatic 114, 3) := by decide +kernel
theorem dX4_beat_18 : decode cX4_beat 18 = .ok (.iaload, 1) := by decide +kernel
theorem dX4_beat_19 : decode cX4_beat 19 = .ok (.goto 4, 3) := by decide +kernel
theorem dX4_beat_22 : decode cX4_beat 22 = .ok (.iconst 0, 1) := by decide +kernel
theorem dX4_beat_23 : decode cX4_beat 23 = .ok (.ireturn, 1) := by decide +kernel
set_option maxRecDepth 20000 in
theorem ggX4_status_X4_ask : GoodIn wsX4_status wsX4_ask := goodIn_r _ [6, 7, 8, 5, 9, 10, 11, 12, 13, 14, 15, 16, 17, 21, 22, 23, 24, 25, 26, 27, 28, 29, 30, 31, 32, 33, 34, 35, 36, 37, 38, 39, 40, 41, 42, 43, 44, 45, 46, 47, 48, 49, 50] (by decide +kernel) (by decide +kernel)
set_option maxRecDepth 20000 in
theorem gX4_status_X4_ask : GoodIn wsX4_status (wsV RX4 121 RX4 yX4_ask wsX4_ask) := goodIn_app (goodIn_of _ (by decide +kernel)) ggX4_status_X4_ask
set_option maxRecDepth 20000 in
theorem ggX4_status_X4_at : GoodIn wsX4_status wsX4_at := goodIn_r _ [20] (by decide +kernel) (by decide +kernel)
set_option maxRecDepth 20000 in
theorem gX4_status_X4_at : GoodIn wsX4_status (va_wsS RX4 114 yX4_at wsX4_at) := goodIn_app (goodIn_of _ (by decide +kernel)) ggX4_status_X4_at
theorem dX4_status_0 : decode cX4_status 0 = .ok (.aload_n 0, 1) := by decide +kernel
theorem dX4_status_1 : decode cX4_status 1 = .ok (.iload_n 1, 1) := by decide +kernel
theorem dX4_status_2 : decode cX4_status 2 = .ok (.iload_n 2, 1) := by decide +kernel
theorem dX4_status_3 : decode cX4_status 3 = .ok (.invokevirtual 121, 3) := by decide +kernel
theorem dX4_status_6 : decode cX4_status 6 = .ok (.ifCond .eq 16, 3) := by decide +kernel
theorem dX4_status_9 : decode cX4_status 9 = .ok (.aload_n 0, 1) := by decide +kernel
theorem dX4_status_10 : decode cX4_status 10 = .ok (.getfield 80, 3) := by decide +kernel
theorem dX4_status_13 : decode cX4_status 13 = .ok (.iload_n 1, 1) := by decide +kernel
theorem dX4_status_14 : decode cX4_status 14 = .ok (.iload_n 2, 1) := by decide +kernel
theorem dX4_status_15 : decode cX4_status 15 = .ok (.invokestatic 114, 3) := by decide +kernel
theorem dX4_status_18 : decode cX4_status 18 = .ok (.iaload, 1) := by decide +kernel
theorem dX4_status_19 : decode cX4_status 19 = .ok (.goto 4, 3) := by decide +kernel
theorem dX4_status_22 : decode cX4_status 22 = .ok (.iconst 0, 1) := by decide +kernel
theorem dX4_status_23 : decode cX4_status 23 = .ok (.ireturn, 1) := by decide +kernel
set_option maxRecDepth 20000 in
theorem ggX4_isCallable_X4_at : GoodIn wsX4_isCallable wsX4_at := goodIn_r _ [5] (by decide +kernel) (by decide +kernel)
set_option maxRecDepth 20000 in
theorem gX4_isCallable_X4_at : GoodIn wsX4_isCallable (va_wsS RX4 114 yX4_at wsX4_at) := goodIn_app (goodIn_of _ (by decide +kernel)) ggX4_isCallable_X4_at
theorem dX4_isCallable_0 : decode cX4_isCallable 0 = .ok (.iload_n 2, 1) := by decide +kernel
theorem dX4_isCallable_1 : decode cX4_isCallable 1 = .ok (.iload_n 1, 1) := by decide +kernel
theorem dX4_isCallable_2 : decode cX4_isCallable 2 = .ok (.if_icmp .eq 27, 3) := by decide +kernel
theorem dX4_isCallable_5 : decode cX4_isCallable 5 = .ok (.iload_n 3, 1) := by decide +kernel
theorem dX4_isCallable_6 : decode cX4_isCallable 6 = .ok (.iconst 4, 1) := by decide +kernel
theorem dX4_isCallable_7 : decode cX4_isCallable 7 = .ok (.irem, 1) := by decide +kernel
theorem dX4_isCallable_8 : decode cX4_isCallable 8 = .ok (.ifCond .eq 17, 3) := by decide +kernel
theorem dX4_isCallable_11 : decode cX4_isCallable 11 = .ok (.aload_n 0, 1) := by decide +kernel
theorem dX4_isCallable_12 : decode cX4_isCallable 12 = .ok (.getfield 80, 3) := by decide +kernel
theorem dX4_isCallable_15 : decode cX4_isCallable 15 = .ok (.iload_n 1, 1) := by decide +kernel
theorem dX4_isCallable_16 : decode cX4_isCallable 16 = .ok (.iload_n 2, 1) := by decide +kernel
theorem dX4_isCallable_17 : decode cX4_isCallable 17 = .ok (.invokestatic 114, 3) := by decide +kernel
theorem dX4_isCallable_20 : decode cX4_isCallable 20 = .ok (.iaload, 1) := by decide +kernel
theorem dX4_isCallable_21 : decode cX4_isCallable 21 = .ok (.iconst 2, 1) := by decide +kernel
theorem dX4_isCallable_22 : decode cX4_isCallable 22 = .ok (.if_icmp .eq 7, 3) := by decide +kernel
theorem dX4_isCallable_25 : decode cX4_isCallable 25 = .ok (.iconst 1, 1) := by decide +kernel
theorem dX4_isCallable_26 : decode cX4_isCallable 26 = .ok (.goto 4, 3) := by decide +kernel
theorem dX4_isCallable_29 : decode cX4_isCallable 29 = .ok (.iconst 0, 1) := by decide +kernel
theorem dX4_isCallable_30 : decode cX4_isCallable 30 = .ok (.ireturn, 1) := by decide +kernel
set_option maxRecDepth 20000 in
theorem ggX4_called_X4_isCallable : GoodIn wsX4_called wsX4_isCallable := goodIn_r _ [5, 6, 7, 8, 4, 9, 10, 11, 12, 13, 14, 15, 16, 17, 18, 19, 20, 21, 22, 23, 24, 25, 26, 27, 28, 29, 30, 31, 32, 33, 34, 35, 36, 37, 38, 39] (by decide +kernel) (by decide +kernel)
set_option maxRecDepth 20000 in
theorem gX4_called_X4_isCallable : GoodIn wsX4_called (wsV RX4 131 RX4 yX4_isCallable wsX4_isCallable) := goodIn_app (goodIn_of _ (by decide +kernel)) ggX4_called_X4_isCallable
theorem dX4_called_0 : decode cX4_called 0 = .ok (.iconst 0, 1) := by decide +kernel
theorem dX4_called_1 : decode cX4_called 1 = .ok (.istore_n 3, 1) := by decide +kernel
theorem dX4_called_2 : decode cX4_called 2 = .ok (.iconst 0, 1) := by decide +kernel
theorem dX4_called_3 : decode cX4_called 3 = .ok (.istore 4, 2) := by decide +kernel
theorem dX4_called_5 : decode cX4_called 5 = .ok (.iload 4, 2) := by decide +kernel
theorem dX4_called_7 : decode cX4_called 7 = .ok (.bipush 8, 2) := by decide +kernel
theorem dX4_called_9 : decode cX4_called 9 = .ok (.if_icmp .ge 28, 3) := by decide +kernel
theorem dX4_called_12 : decode cX4_called 12 = .ok (.iload_n 3, 1) := by decide +kernel
theorem dX4_called_13 : decode cX4_called 13 = .ok (.aload_n 0, 1) := by decide +kernel
theorem dX4_called_14 : decode cX4_called 14 = .ok (.iload_n 1, 1) := by decide +kernel
theorem dX4_called_15 : decode cX4_called 15 = .ok (.iload 4, 2) := by decide +kernel
theorem dX4_called_17 : decode cX4_called 17 = .ok (.iload_n 2, 1) := by decide +kernel
theorem dX4_called_18 : decode cX4_called 18 = .ok (.invokevirtual 131, 3) := by decide +kernel
theorem dX4_called_21 : decode cX4_called 21 = .ok (.ifCond .eq 7, 3) := by decide +kernel
theorem dX4_called_24 : decode cX4_called 24 = .ok (.iconst 1, 1) := by decide +kernel
theorem dX4_called_25 : decode cX4_called 25 = .ok (.goto 4, 3) := by decide +kernel
theorem dX4_called_28 : decode cX4_called 28 = .ok (.iconst 0, 1) := by decide +kernel
theorem dX4_called_29 : decode cX4_called 29 = .ok (.iadd, 1) := by decide +kernel
theorem dX4_called_30 : decode cX4_called 30 = .ok (.istore_n 3, 1) := by decide +kernel
theorem dX4_called_31 : decode cX4_called 31 = .ok (.iinc 4 1, 3) := by decide +kernel
theorem dX4_called_34 : decode cX4_called 34 = .ok (.goto (-29), 3) := by decide +kernel
theorem dX4_called_37 : decode cX4_called 37 = .ok (.iload_n 3, 1) := by decide +kernel
theorem dX4_called_38 : decode cX4_called 38 = .ok (.ifCond .ne 7, 3) := by decide +kernel
theorem dX4_called_41 : decode cX4_called 41 = .ok (.iconst 0, 1) := by decide +kernel
theorem dX4_called_42 : decode cX4_called 42 = .ok (.goto 12, 3) := by decide +kernel
theorem dX4_called_45 : decode cX4_called 45 = .ok (.iconst 5, 1) := by decide +kernel
theorem dX4_called_46 : decode cX4_called 46 = .ok (.iload_n 2, 1) := by decide +kernel
theorem dX4_called_47 : decode cX4_called 47 = .ok (.imul, 1) := by decide +kernel
theorem dX4_called_48 : decode cX4_called 48 = .ok (.iconst 3, 1) := by decide +kernel
theorem dX4_called_49 : decode cX4_called 49 = .ok (.iload_n 1, 1) := by decide +kernel
theorem dX4_called_50 : decode cX4_called 50 = .ok (.imul, 1) := by decide +kernel
theorem dX4_called_51 : decode cX4_called 51 = .ok (.iadd, 1) := by decide +kernel
theorem dX4_called_52 : decode cX4_called 52 = .ok (.iload_n 3, 1) := by decide +kernel
theorem dX4_called_53 : decode cX4_called 53 = .ok (.irem, 1) := by decide +kernel
theorem dX4_called_54 : decode cX4_called 54 = .ok (.istore 4, 2) := by decide +kernel
theorem dX4_called_56 : decode cX4_called 56 = .ok (.iconst (-1), 1) := by decide +kernel
theorem dX4_called_57 : decode cX4_called 57 = .ok (.istore 5, 2) := by decide +kernel
theorem dX4_called_59 : decode cX4_called 59 = .ok (.bipush 7, 2) := by decide +kernel
theorem dX4_called_61 : decode cX4_called 61 = .ok (.istore 6, 2) := by decide +kernel
theorem dX4_called_63 : decode cX4_called 63 = .ok (.iload 6, 2) := by decide +kernel
theorem dX4_called_65 : decode cX4_called 65 = .ok (.ifCond .lt 52, 3) := by decide +kernel
theorem dX4_called_68 : decode cX4_called 68 = .ok (.aload_n 0, 1) := by decide +kernel
theorem dX4_called_69 : decode cX4_called 69 = .ok (.iload_n 1, 1) := by decide +kernel
theorem dX4_called_70 : decode cX4_called 70 = .ok (.iload 6, 2) := by decide +kernel
theorem dX4_called_72 : decode cX4_called 72 = .ok (.iload_n 2, 1) := by decide +kernel
theorem dX4_called_73 : decode cX4_called 73 = .ok (.invokevirtual 131, 3) := by decide +kernel
theorem dX4_called_76 : decode cX4_called 76 = .ok (.istore 7, 2) := by decide +kernel
theorem dX4_called_78 : decode cX4_called 78 = .ok (.iload_n 3, 1) := by decide +kernel
theorem dX4_called_79 : decode cX4_called 79 = .ok (.iload 7, 2) := by decide +kernel
theorem dX4_called_81 : decode cX4_called 81 = .ok (.ifCond .eq 7, 3) := by decide +kernel
theorem dX4_called_84 : decode cX4_called 84 = .ok (.iconst 1, 1) := by decide +kernel
theorem dX4_called_85 : decode cX4_called 85 = .ok (.goto 4, 3) := by decide +kernel
theorem dX4_called_88 : decode cX4_called 88 = .ok (.iconst 0, 1) := by decide +kernel
theorem dX4_called_89 : decode cX4_called 89 = .ok (.isub, 1) := by decide +kernel
theorem dX4_called_90 : decode cX4_called 90 = .ok (.istore_n 3, 1) := by decide +kernel
theorem dX4_called_91 : decode cX4_called 91 = .ok (.iload 7, 2) := by decide +kernel
theorem dX4_called_93 : decode cX4_called 93 = .ok (.ifCond .eq 14, 3) := by decide +kernel
theorem dX4_called_96 : decode cX4_called 96 = .ok (.iload_n 3, 1) := by decide +kernel
theorem dX4_called_97 : decode cX4_called 97 = .ok (.iload 4, 2) := by decide +kernel
theorem dX4_called_99 : decode cX4_called 99 = .ok (.if_icmp .ne 8, 3) := by decide +kernel
theorem dX4_called_102 : decode cX4_called 102 = .ok (.iload 6, 2) := by decide +kernel
theorem dX4_called_104 : decode cX4_called 104 = .ok (.goto 5, 3) := by decide +kernel
theorem dX4_called_107 : decode cX4_called 107 = .ok (.iload 5, 2) := by decide +kernel
theorem dX4_called_109 : decode cX4_called 109 = .ok (.istore 5, 2) := by decide +kernel
theorem dX4_called_111 : decode cX4_called 111 = .ok (.iinc 6 (-1), 3) := by decide +kernel
theorem dX4_called_114 : decode cX4_called 114 = .ok (.goto (-51), 3) := by decide +kernel
theorem dX4_called_117 : decode cX4_called 117 = .ok (.iload 5, 2) := by decide +kernel
theorem dX4_called_119 : decode cX4_called 119 = .ok (.ireturn, 1) := by decide +kernel
