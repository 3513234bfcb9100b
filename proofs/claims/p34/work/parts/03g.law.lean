theorem dL_isWater_121 : decode cL_isWater 121 = .ok (.bipush 8, 2) := by decide +kernel
theorem dL_isWater_123 : decode cL_isWater 123 = .ok (.iload 9, 2) := by decide +kernel
theorem dL_isWater_125 : decode cL_isWater 125 = .ok (.imul, 1) := by decide +kernel
theorem dL_isWater_126 : decode cL_isWater 126 = .ok (.iaload, 1) := by decide +kernel
theorem dL_isWater_127 : decode cL_isWater 127 = .ok (.aload_n 1, 1) := by decide +kernel
theorem dL_isWater_128 : decode cL_isWater 128 = .ok (.bipush 8, 2) := by decide +kernel
theorem dL_isWater_130 : decode cL_isWater 130 = .ok (.iload 9, 2) := by decide +kernel
theorem dL_isWater_132 : decode cL_isWater 132 = .ok (.imul, 1) := by decide +kernel
theorem dL_isWater_133 : decode cL_isWater 133 = .ok (.iconst 1, 1) := by decide +kernel
theorem dL_isWater_134 : decode cL_isWater 134 = .ok (.iadd, 1) := by decide +kernel
theorem dL_isWater_135 : decode cL_isWater 135 = .ok (.iaload, 1) := by decide +kernel
theorem dL_isWater_136 : decode cL_isWater 136 = .ok (.imul, 1) := by decide +kernel
theorem dL_isWater_137 : decode cL_isWater 137 = .ok (.istore 14, 2) := by decide +kernel
theorem dL_isWater_139 : decode cL_isWater 139 = .ok (.iload 11, 2) := by decide +kernel
theorem dL_isWater_141 : decode cL_isWater 141 = .ok (.iload 12, 2) := by decide +kernel
theorem dL_isWater_143 : decode cL_isWater 143 = .ok (.iload 10, 2) := by decide +kernel
theorem dL_isWater_145 : decode cL_isWater 145 = .ok (.if_icmp .ge 8, 3) := by decide +kernel
theorem dL_isWater_148 : decode cL_isWater 148 = .ok (.iload 12, 2) := by decide +kernel
theorem dL_isWater_150 : decode cL_isWater 150 = .ok (.goto 5, 3) := by decide +kernel
theorem dL_isWater_153 : decode cL_isWater 153 = .ok (.iload 10, 2) := by decide +kernel
theorem dL_isWater_155 : decode cL_isWater 155 = .ok (.if_icmp .ne 100, 3) := by decide +kernel
theorem dL_isWater_158 : decode cL_isWater 158 = .ok (.aload_n 0, 1) := by decide +kernel
theorem dL_isWater_159 : decode cL_isWater 159 = .ok (.iload 9, 2) := by decide +kernel
theorem dL_isWater_161 : decode cL_isWater 161 = .ok (.invokevirtual 58, 3) := by decide +kernel
theorem dL_isWater_164 : decode cL_isWater 164 = .ok (.iload 10, 2) := by decide +kernel
theorem dL_isWater_166 : decode cL_isWater 166 = .ok (.iload 6, 2) := by decide +kernel
theorem dL_isWater_168 : decode cL_isWater 168 = .ok (.iadd, 1) := by decide +kernel
theorem dL_isWater_169 : decode cL_isWater 169 = .ok (.iload 7, 2) := by decide +kernel
theorem dL_isWater_171 : decode cL_isWater 171 = .ok (.iadd, 1) := by decide +kernel
theorem dL_isWater_172 : decode cL_isWater 172 = .ok (.iload 11, 2) := by decide +kernel
theorem dL_isWater_174 : decode cL_isWater 174 = .ok (.isub, 1) := by decide +kernel
theorem dL_isWater_175 : decode cL_isWater 175 = .ok (.iload 13, 2) := by decide +kernel
theorem dL_isWater_177 : decode cL_isWater 177 = .ok (.isub, 1) := by decide +kernel
theorem dL_isWater_178 : decode cL_isWater 178 = .ok (.if_icmp .ne 77, 3) := by decide +kernel
theorem dL_isWater_181 : decode cL_isWater 181 = .ok (.aload_n 0, 1) := by decide +kernel
theorem dL_isWater_182 : decode cL_isWater 182 = .ok (.iload 9, 2) := by decide +kernel
theorem dL_isWater_184 : decode cL_isWater 184 = .ok (.invokevirtual 61, 3) := by decide +kernel
theorem dL_isWater_187 : decode cL_isWater 187 = .ok (.aload_n 0, 1) := by decide +kernel
theorem dL_isWater_188 : decode cL_isWater 188 = .ok (.iload 9, 2) := by decide +kernel
theorem dL_isWater_190 : decode cL_isWater 190 = .ok (.invokevirtual 58, 3) := by decide +kernel
theorem dL_isWater_193 : decode cL_isWater 193 = .ok (.if_icmp .ne 62, 3) := by decide +kernel
theorem dL_isWater_196 : decode cL_isWater 196 = .ok (.aload_n 0, 1) := by decide +kernel
theorem dL_isWater_197 : decode cL_isWater 197 = .ok (.iload 9, 2) := by decide +kernel
theorem dL_isWater_199 : decode cL_isWater 199 = .ok (.invokevirtual 58, 3) := by decide +kernel
theorem dL_isWater_202 : decode cL_isWater 202 = .ok (.iload 14, 2) := by decide +kernel
theorem dL_isWater_204 : decode cL_isWater 204 = .ok (.if_icmp .gt 51, 3) := by decide +kernel
theorem dL_isWater_207 : decode cL_isWater 207 = .ok (.iload 13, 2) := by decide +kernel
theorem dL_isWater_209 : decode cL_isWater 209 = .ok (.ifCond .eq 14, 3) := by decide +kernel
theorem dL_isWater_212 : decode cL_isWater 212 = .ok (.aload_n 0, 1) := by decide +kernel
theorem dL_isWater_213 : decode cL_isWater 213 = .ok (.iload 9, 2) := by decide +kernel
theorem dL_isWater_215 : decode cL_isWater 215 = .ok (.invokevirtual 58, 3) := by decide +kernel
theorem dL_isWater_218 : decode cL_isWater 218 = .ok (.iload 14, 2) := by decide +kernel
theorem dL_isWater_220 : decode cL_isWater 220 = .ok (.if_icmp .ne 35, 3) := by decide +kernel
theorem dL_isWater_223 : decode cL_isWater 223 = .ok (.iload 13, 2) := by decide +kernel
theorem dL_isWater_225 : decode cL_isWater 225 = .ok (.ifCond .lt 30, 3) := by decide +kernel
theorem dL_isWater_228 : decode cL_isWater 228 = .ok (.aload_n 0, 1) := by decide +kernel
theorem dL_isWater_229 : decode cL_isWater 229 = .ok (.iload 9, 2) := by decide +kernel
theorem dL_isWater_231 : decode cL_isWater 231 = .ok (.invokevirtual 64, 3) := by decide +kernel
theorem dL_isWater_234 : decode cL_isWater 234 = .ok (.aload_n 0, 1) := by decide +kernel
theorem dL_isWater_235 : decode cL_isWater 235 = .ok (.iload 9, 2) := by decide +kernel
theorem dL_isWater_237 : decode cL_isWater 237 = .ok (.invokevirtual 58, 3) := by decide +kernel
theorem dL_isWater_240 : decode cL_isWater 240 = .ok (.aload_n 1, 1) := by decide +kernel
theorem dL_isWater_241 : decode cL_isWater 241 = .ok (.bipush 8, 2) := by decide +kernel
theorem dL_isWater_243 : decode cL_isWater 243 = .ok (.iload 9, 2) := by decide +kernel
theorem dL_isWater_245 : decode cL_isWater 245 = .ok (.imul, 1) := by decide +kernel
theorem dL_isWater_246 : decode cL_isWater 246 = .ok (.iaload, 1) := by decide +kernel
theorem dL_isWater_247 : decode cL_isWater 247 = .ok (.idiv, 1) := by decide +kernel
theorem dL_isWater_248 : decode cL_isWater 248 = .ok (.if_icmp .ne 7, 3) := by decide +kernel
theorem dL_isWater_251 : decode cL_isWater 251 = .ok (.iconst 1, 1) := by decide +kernel
theorem dL_isWater_252 : decode cL_isWater 252 = .ok (.goto 4, 3) := by decide +kernel
theorem dL_isWater_255 : decode cL_isWater 255 = .ok (.iconst 0, 1) := by decide +kernel
theorem dL_isWater_256 : decode cL_isWater 256 = .ok (.istore 8, 2) := by decide +kernel
theorem dL_isWater_258 : decode cL_isWater 258 = .ok (.iload 11, 2) := by decide +kernel
theorem dL_isWater_260 : decode cL_isWater 260 = .ok (.istore 6, 2) := by decide +kernel
theorem dL_isWater_262 : decode cL_isWater 262 = .ok (.iload 13, 2) := by decide +kernel
theorem dL_isWater_264 : decode cL_isWater 264 = .ok (.istore 7, 2) := by decide +kernel
theorem dL_isWater_266 : decode cL_isWater 266 = .ok (.iload 5, 2) := by decide +kernel
theorem dL_isWater_268 : decode cL_isWater 268 = .ok (.iload 13, 2) := by decide +kernel
theorem dL_isWater_270 : decode cL_isWater 270 = .ok (.iadd, 1) := by decide +kernel
theorem dL_isWater_271 : decode cL_isWater 271 = .ok (.istore 5, 2) := by decide +kernel
theorem dL_isWater_273 : decode cL_isWater 273 = .ok (.aload_n 1, 1) := by decide +kernel
theorem dL_isWater_274 : decode cL_isWater 274 = .ok (.bipush 8, 2) := by decide +kernel
theorem dL_isWater_276 : decode cL_isWater 276 = .ok (.iload 9, 2) := by decide +kernel
theorem dL_isWater_278 : decode cL_isWater 278 = .ok (.imul, 1) := by decide +kernel
theorem dL_isWater_279 : decode cL_isWater 279 = .ok (.iconst 3, 1) := by decide +kernel
theorem dL_isWater_280 : decode cL_isWater 280 = .ok (.iadd, 1) := by decide +kernel
theorem dL_isWater_281 : decode cL_isWater 281 = .ok (.iconst 0, 1) := by decide +kernel
theorem dL_isWater_282 : decode cL_isWater 282 = .ok (.iastore, 1) := by decide +kernel
theorem dL_isWater_283 : decode cL_isWater 283 = .ok (.iinc 9 1, 3) := by decide +kernel
theorem dL_isWater_286 : decode cL_isWater 286 = .ok (.goto (-271), 3) := by decide +kernel
theorem dL_isWater_289 : decode cL_isWater 289 = .ok (.iload 8, 2) := by decide +kernel
theorem dL_isWater_291 : decode cL_isWater 291 = .ok (.ifCond .eq 14, 3) := by decide +kernel
theorem dL_isWater_294 : decode cL_isWater 294 = .ok (.iload 5, 2) := by decide +kernel
theorem dL_isWater_296 : decode cL_isWater 296 = .ok (.iload 4, 2) := by decide +kernel
theorem dL_isWater_298 : decode cL_isWater 298 = .ok (.if_icmp .ne 7, 3) := by decide +kernel
theorem dL_isWater_301 : decode cL_isWater 301 = .ok (.iconst 1, 1) := by decide +kernel
theorem dL_isWater_302 : decode cL_isWater 302 = .ok (.goto 4, 3) := by decide +kernel
theorem dL_isWater_305 : decode cL_isWater 305 = .ok (.iconst 0, 1) := by decide +kernel
theorem dL_isWater_306 : decode cL_isWater 306 = .ok (.ireturn, 1) := by decide +kernel
set_option maxRecDepth 20000 in
theorem ggL_areBeats_X3_time : GoodIn wsL_areBeats wsX3_time := goodIn_r _ [5, 6, 47, 48, 49, 50] (by decide +kernel) (by decide +kernel)
set_option maxRecDepth 20000 in
theorem gL_areBeats_X3_time : GoodIn wsL_areBeats (wsV RL 103 RX3 yX3_time wsX3_time) := goodIn_app (goodIn_of _ (by decide +kernel)) ggL_areBeats_X3_time
set_option maxRecDepth 20000 in
theorem ggL_areBeats_X3_beat : GoodIn wsL_areBeats wsX3_beat := goodIn_ca (goodIn_r _ [10, 11, 12, 13, 14, 4, 15, 16, 17, 18, 19, 20, 47, 48, 49, 50, 51, 52, 53, 54, 55, 56, 57, 58, 59, 60, 61, 62] (by decide +kernel) (by decide +kernel)) (goodIn_sub (fun _ h => List.mem_cons_of_mem _ (List.mem_append_right _ h)) (by decide +kernel))
set_option maxRecDepth 20000 in
theorem gL_areBeats_X3_beat : GoodIn wsL_areBeats (wsV RL 97 RX3 yX3_beat wsX3_beat) := goodIn_app (goodIn_of _ (by decide +kernel)) ggL_areBeats_X3_beat
set_option maxRecDepth 20000 in
theorem ggL_areBeats_X3_status : GoodIn wsL_areBeats wsX3_status := goodIn_ca (goodIn_r _ [24, 11, 25, 13, 14, 4, 15, 16, 17, 18, 19, 20, 47, 48, 49, 50, 51, 52, 53, 54, 55, 56, 57, 58, 59, 60, 61, 62] (by decide +kernel) (by decide +kernel)) (goodIn_sub (fun _ h => List.mem_cons_of_mem _ (List.mem_append_right _ h)) (by decide +kernel))
set_option maxRecDepth 20000 in
theorem gL_areBeats_X3_status : GoodIn wsL_areBeats (wsV RL 100 RX3 yX3_status wsX3_status) := goodIn_app (goodIn_of _ (by decide +kernel)) ggL_areBeats_X3_status
set_option maxRecDepth 20000 in
theorem ggL_areBeats_X3_version : GoodIn wsL_areBeats wsX3_version := goodIn_ca (goodIn_r _ [29, 11, 30, 13, 14, 4, 15, 16, 17, 18, 19, 20, 47, 48, 49, 50, 51, 52, 53, 54, 55, 56, 57, 58, 59, 60, 61, 62] (by decide +kernel) (by decide +kernel)) (goodIn_sub (fun _ h => List.mem_cons_of_mem _ (List.mem_append_right _ h)) (by decide +kernel))
set_option maxRecDepth 20000 in
theorem gL_areBeats_X3_version : GoodIn wsL_areBeats (wsV RL 91 RX3 yX3_version wsX3_version) := goodIn_app (goodIn_of _ (by decide +kernel)) ggL_areBeats_X3_version
set_option maxRecDepth 20000 in
theorem ggL_areBeats_X3_believed : GoodIn wsL_areBeats wsX3_believed := goodIn_ca (goodIn_r _ [34, 11, 35, 13, 14, 4, 15, 16, 17, 18, 19, 20, 36, 37, 38, 39, 40, 41, 47, 48, 49, 50, 51, 52, 53, 54, 55, 56, 57, 58, 59, 60, 61, 62] (by decide +kernel) (by decide +kernel)) (goodIn_sub (fun _ h => List.mem_cons_of_mem _ (List.mem_append_right _ h)) (by decide +kernel))
set_option maxRecDepth 20000 in
theorem gL_areBeats_X3_believed : GoodIn wsL_areBeats (wsV RL 88 RX3 yX3_believed wsX3_believed) := goodIn_app (goodIn_of _ (by decide +kernel)) ggL_areBeats_X3_believed
set_option maxRecDepth 20000 in
theorem ggL_areBeats_X3_age : GoodIn wsL_areBeats wsX3_age := goodIn_ca (goodIn_r _ [45, 11, 6, 46, 13, 14, 4, 15, 16, 17, 18, 19, 20, 36, 37, 38, 39, 40, 41, 47, 48, 49, 50, 51, 52, 53, 54, 55, 56, 57, 58, 59, 60, 61, 62] (by decide +kernel) (by decide +kernel)) (goodIn_sub (fun _ h => List.mem_cons_of_mem _ (List.mem_append_right _ h)) (by decide +kernel))
set_option maxRecDepth 20000 in
theorem gL_areBeats_X3_age : GoodIn wsL_areBeats (wsV RL 94 RX3 yX3_age wsX3_age) := goodIn_app (goodIn_of _ (by decide +kernel)) ggL_areBeats_X3_age
theorem dL_areBeats_0 : decode cL_areBeats 0 = .ok (.aload_n 0, 1) := by decide +kernel
theorem dL_areBeats_1 : decode cL_areBeats 1 = .ok (.invokevirtual 103, 3) := by decide +kernel
theorem dL_areBeats_4 : decode cL_areBeats 4 = .ok (.istore 5, 2) := by decide +kernel
theorem dL_areBeats_6 : decode cL_areBeats 6 = .ok (.iconst 1, 1) := by decide +kernel
theorem dL_areBeats_7 : decode cL_areBeats 7 = .ok (.istore 6, 2) := by decide +kernel
theorem dL_areBeats_9 : decode cL_areBeats 9 = .ok (.iconst 0, 1) := by decide +kernel
theorem dL_areBeats_10 : decode cL_areBeats 10 = .ok (.istore 7, 2) := by decide +kernel
theorem dL_areBeats_12 : decode cL_areBeats 12 = .ok (.iload 7, 2) := by decide +kernel
theorem dL_areBeats_14 : decode cL_areBeats 14 = .ok (.bipush 64, 2) := by decide +kernel
theorem dL_areBeats_16 : decode cL_areBeats 16 = .ok (.if_icmp .ge 451, 3) := by decide +kernel
theorem dL_areBeats_19 : decode cL_areBeats 19 = .ok (.iload 6, 2) := by decide +kernel
theorem dL_areBeats_21 : decode cL_areBeats 21 = .ok (.ifCond .eq 446, 3) := by decide +kernel
theorem dL_areBeats_24 : decode cL_areBeats 24 = .ok (.iload 7, 2) := by decide +kernel
theorem dL_areBeats_26 : decode cL_areBeats 26 = .ok (.bipush 8, 2) := by decide +kernel
theorem dL_areBeats_28 : decode cL_areBeats 28 = .ok (.idiv, 1) := by decide +kernel
theorem dL_areBeats_29 : decode cL_areBeats 29 = .ok (.istore 8, 2) := by decide +kernel
theorem dL_areBeats_31 : decode cL_areBeats 31 = .ok (.iload 7, 2) := by decide +kernel
theorem dL_areBeats_33 : decode cL_areBeats 33 = .ok (.bipush 8, 2) := by decide +kernel
theorem dL_areBeats_35 : decode cL_areBeats 35 = .ok (.irem, 1) := by decide +kernel
theorem dL_areBeats_36 : decode cL_areBeats 36 = .ok (.istore 9, 2) := by decide +kernel
theorem dL_areBeats_38 : decode cL_areBeats 38 = .ok (.aload_n 1, 1) := by decide +kernel
theorem dL_areBeats_39 : decode cL_areBeats 39 = .ok (.bipush 8, 2) := by decide +kernel
theorem dL_areBeats_41 : decode cL_areBeats 41 = .ok (.iload 8, 2) := by decide +kernel
theorem dL_areBeats_43 : decode cL_areBeats 43 = .ok (.imul, 1) := by decide +kernel
theorem dL_areBeats_44 : decode cL_areBeats 44 = .ok (.iconst 1, 1) := by decide +kernel
theorem dL_areBeats_45 : decode cL_areBeats 45 = .ok (.iadd, 1) := by decide +kernel
theorem dL_areBeats_46 : decode cL_areBeats 46 = .ok (.iaload, 1) := by decide +kernel
theorem dL_areBeats_47 : decode cL_areBeats 47 = .ok (.ifCond .ne 7, 3) := by decide +kernel
theorem dL_areBeats_50 : decode cL_areBeats 50 = .ok (.iconst 1, 1) := by decide +kernel
theorem dL_areBeats_51 : decode cL_areBeats 51 = .ok (.goto 4, 3) := by decide +kernel
theorem dL_areBeats_54 : decode cL_areBeats 54 = .ok (.iconst 0, 1) := by decide +kernel
theorem dL_areBeats_55 : decode cL_areBeats 55 = .ok (.istore 10, 2) := by decide +kernel
theorem dL_areBeats_57 : decode cL_areBeats 57 = .ok (.aload_n 0, 1) := by decide +kernel
theorem dL_areBeats_58 : decode cL_areBeats 58 = .ok (.iload 8, 2) := by decide +kernel
theorem dL_areBeats_60 : decode cL_areBeats 60 = .ok (.iload 9, 2) := by decide +kernel
theorem dL_areBeats_62 : decode cL_areBeats 62 = .ok (.invokevirtual 97, 3) := by decide +kernel
theorem dL_areBeats_65 : decode cL_areBeats 65 = .ok (.istore 11, 2) := by decide +kernel
theorem dL_areBeats_67 : decode cL_areBeats 67 = .ok (.iload 11, 2) := by decide +kernel
theorem dL_areBeats_69 : decode cL_areBeats 69 = .ok (.aload_n 2, 1) := by decide +kernel
theorem dL_areBeats_70 : decode cL_areBeats 70 = .ok (.iload 7, 2) := by decide +kernel
theorem dL_areBeats_72 : decode cL_areBeats 72 = .ok (.iaload, 1) := by decide +kernel
theorem dL_areBeats_73 : decode cL_areBeats 73 = .ok (.if_icmp .le 7, 3) := by decide +kernel
theorem dL_areBeats_76 : decode cL_areBeats 76 = .ok (.iconst 1, 1) := by decide +kernel
theorem dL_areBeats_77 : decode cL_areBeats 77 = .ok (.goto 4, 3) := by decide +kernel
theorem dL_areBeats_80 : decode cL_areBeats 80 = .ok (.iconst 0, 1) := by decide +kernel
theorem dL_areBeats_81 : decode cL_areBeats 81 = .ok (.istore 12, 2) := by decide +kernel
theorem dL_areBeats_83 : decode cL_areBeats 83 = .ok (.aload_n 3, 1) := by decide +kernel
theorem dL_areBeats_84 : decode cL_areBeats 84 = .ok (.iload 7, 2) := by decide +kernel
theorem dL_areBeats_86 : decode cL_areBeats 86 = .ok (.iload 12, 2) := by decide +kernel
theorem dL_areBeats_88 : decode cL_areBeats 88 = .ok (.ifCond .eq 8, 3) := by decide +kernel
theorem dL_areBeats_91 : decode cL_areBeats 91 = .ok (.iload 5, 2) := by decide +kernel
theorem dL_areBeats_93 : decode cL_areBeats 93 = .ok (.goto 7, 3) := by decide +kernel
theorem dL_areBeats_96 : decode cL_areBeats 96 = .ok (.aload_n 3, 1) := by decide +kernel
theorem dL_areBeats_97 : decode cL_areBeats 97 = .ok (.iload 7, 2) := by decide +kernel
theorem dL_areBeats_99 : decode cL_areBeats 99 = .ok (.iaload, 1) := by decide +kernel
theorem dL_areBeats_100 : decode cL_areBeats 100 = .ok (.iastore, 1) := by decide +kernel
theorem dL_areBeats_101 : decode cL_areBeats 101 = .ok (.iload 11, 2) := by decide +kernel
theorem dL_areBeats_103 : decode cL_areBeats 103 = .ok (.aload_n 2, 1) := by decide +kernel
theorem dL_areBeats_104 : decode cL_areBeats 104 = .ok (.iload 7, 2) := by decide +kernel
theorem dL_areBeats_106 : decode cL_areBeats 106 = .ok (.iaload, 1) := by decide +kernel
theorem dL_areBeats_107 : decode cL_areBeats 107 = .ok (.if_icmp .lt 57, 3) := by decide +kernel
theorem dL_areBeats_110 : decode cL_areBeats 110 = .ok (.iload 12, 2) := by decide +kernel
theorem dL_areBeats_112 : decode cL_areBeats 112 = .ok (.ifCond .eq 35, 3) := by decide +kernel
theorem dL_areBeats_115 : decode cL_areBeats 115 = .ok (.iload 10, 2) := by decide +kernel
theorem dL_areBeats_117 : decode cL_areBeats 117 = .ok (.ifCond .eq 47, 3) := by decide +kernel
theorem dL_areBeats_120 : decode cL_areBeats 120 = .ok (.aload_n 1, 1) := by decide +kernel
theorem dL_areBeats_121 : decode cL_areBeats 121 = .ok (.bipush 8, 2) := by decide +kernel
theorem dL_areBeats_123 : decode cL_areBeats 123 = .ok (.iload 9, 2) := by decide +kernel
theorem dL_areBeats_125 : decode cL_areBeats 125 = .ok (.imul, 1) := by decide +kernel
theorem dL_areBeats_126 : decode cL_areBeats 126 = .ok (.iconst 1, 1) := by decide +kernel
theorem dL_areBeats_127 : decode cL_areBeats 127 = .ok (.iadd, 1) := by decide +kernel
theorem dL_areBeats_128 : decode cL_areBeats 128 = .ok (.iaload, 1) := by decide +kernel
theorem dL_areBeats_129 : decode cL_areBeats 129 = .ok (.ifCond .eq 18, 3) := by decide +kernel
theorem dL_areBeats_132 : decode cL_areBeats 132 = .ok (.iload 11, 2) := by decide +kernel
theorem dL_areBeats_134 : decode cL_areBeats 134 = .ok (.aload_n 0, 1) := by decide +kernel
theorem dL_areBeats_135 : decode cL_areBeats 135 = .ok (.iload 9, 2) := by decide +kernel
theorem dL_areBeats_137 : decode cL_areBeats 137 = .ok (.iload 9, 2) := by decide +kernel
theorem dL_areBeats_139 : decode cL_areBeats 139 = .ok (.invokevirtual 97, 3) := by decide +kernel
theorem dL_areBeats_142 : decode cL_areBeats 142 = .ok (.iconst 1, 1) := by decide +kernel
theorem dL_areBeats_143 : decode cL_areBeats 143 = .ok (.iadd, 1) := by decide +kernel
theorem dL_areBeats_144 : decode cL_areBeats 144 = .ok (.if_icmp .ge 20, 3) := by decide +kernel
theorem dL_areBeats_147 : decode cL_areBeats 147 = .ok (.iload 11, 2) := by decide +kernel
theorem dL_areBeats_149 : decode cL_areBeats 149 = .ok (.aload_n 0, 1) := by decide +kernel
theorem dL_areBeats_150 : decode cL_areBeats 150 = .ok (.iload 9, 2) := by decide +kernel
theorem dL_areBeats_152 : decode cL_areBeats 152 = .ok (.iload 9, 2) := by decide +kernel
theorem dL_areBeats_154 : decode cL_areBeats 154 = .ok (.invokevirtual 97, 3) := by decide +kernel
theorem dL_areBeats_157 : decode cL_areBeats 157 = .ok (.if_icmp .gt 7, 3) := by decide +kernel
theorem dL_areBeats_160 : decode cL_areBeats 160 = .ok (.iconst 1, 1) := by decide +kernel
theorem dL_areBeats_161 : decode cL_areBeats 161 = .ok (.goto 4, 3) := by decide +kernel
theorem dL_areBeats_164 : decode cL_areBeats 164 = .ok (.iconst 0, 1) := by decide +kernel
theorem dL_areBeats_165 : decode cL_areBeats 165 = .ok (.istore 6, 2) := by decide +kernel
theorem dL_areBeats_167 : decode cL_areBeats 167 = .ok (.iload 8, 2) := by decide +kernel
theorem dL_areBeats_169 : decode cL_areBeats 169 = .ok (.iload 9, 2) := by decide +kernel
theorem dL_areBeats_171 : decode cL_areBeats 171 = .ok (.if_icmp .ne 65, 3) := by decide +kernel
theorem dL_areBeats_174 : decode cL_areBeats 174 = .ok (.iload 6, 2) := by decide +kernel
theorem dL_areBeats_176 : decode cL_areBeats 176 = .ok (.ifCond .eq 54, 3) := by decide +kernel
theorem dL_areBeats_179 : decode cL_areBeats 179 = .ok (.iload 12, 2) := by decide +kernel
theorem dL_areBeats_181 : decode cL_areBeats 181 = .ok (.iload 10, 2) := by decide +kernel
theorem dL_areBeats_183 : decode cL_areBeats 183 = .ok (.if_icmp .ne 47, 3) := by decide +kernel
theorem dL_areBeats_186 : decode cL_areBeats 186 = .ok (.iload 10, 2) := by decide +kernel
theorem dL_areBeats_188 : decode cL_areBeats 188 = .ok (.ifCond .eq 14, 3) := by decide +kernel
theorem dL_areBeats_191 : decode cL_areBeats 191 = .ok (.iload 11, 2) := by decide +kernel
theorem dL_areBeats_193 : decode cL_areBeats 193 = .ok (.aload_n 2, 1) := by decide +kernel
theorem dL_areBeats_194 : decode cL_areBeats 194 = .ok (.iload 7, 2) := by decide +kernel
theorem dL_areBeats_196 : decode cL_areBeats 196 = .ok (.iaload, 1) := by decide +kernel
theorem dL_areBeats_197 : decode cL_areBeats 197 = .ok (.iconst 1, 1) := by decide +kernel
theorem dL_areBeats_198 : decode cL_areBeats 198 = .ok (.iadd, 1) := by decide +kernel
theorem dL_areBeats_199 : decode cL_areBeats 199 = .ok (.if_icmp .ne 31, 3) := by decide +kernel
theorem dL_areBeats_202 : decode cL_areBeats 202 = .ok (.aload_n 0, 1) := by decide +kernel
theorem dL_areBeats_203 : decode cL_areBeats 203 = .ok (.iload 8, 2) := by decide +kernel
theorem dL_areBeats_205 : decode cL_areBeats 205 = .ok (.iload 9, 2) := by decide +kernel
theorem dL_areBeats_207 : decode cL_areBeats 207 = .ok (.invokevirtual 100, 3) := by decide +kernel
theorem dL_areBeats_210 : decode cL_areBeats 210 = .ok (.ifCond .ne 20, 3) := by decide +kernel
theorem dL_areBeats_213 : decode cL_areBeats 213 = .ok (.aload_n 0, 1) := by decide +kernel
theorem dL_areBeats_214 : decode cL_areBeats 214 = .ok (.iload 8, 2) := by decide +kernel
theorem dL_areBeats_216 : decode cL_areBeats 216 = .ok (.iload 8, 2) := by decide +kernel
theorem dL_areBeats_218 : decode cL_areBeats 218 = .ok (.invokevirtual 91, 3) := by decide +kernel
theorem dL_areBeats_221 : decode cL_areBeats 221 = .ok (.iload 11, 2) := by decide +kernel
theorem dL_areBeats_223 : decode cL_areBeats 223 = .ok (.if_icmp .ne 7, 3) := by decide +kernel
theorem dL_areBeats_226 : decode cL_areBeats 226 = .ok (.iconst 1, 1) := by decide +kernel
theorem dL_areBeats_227 : decode cL_areBeats 227 = .ok (.goto 4, 3) := by decide +kernel
theorem dL_areBeats_230 : decode cL_areBeats 230 = .ok (.iconst 0, 1) := by decide +kernel
theorem dL_areBeats_231 : decode cL_areBeats 231 = .ok (.istore 6, 2) := by decide +kernel
theorem dL_areBeats_233 : decode cL_areBeats 233 = .ok (.goto 67, 3) := by decide +kernel
theorem dL_areBeats_236 : decode cL_areBeats 236 = .ok (.iload 10, 2) := by decide +kernel
theorem dL_areBeats_238 : decode cL_areBeats 238 = .ok (.ifCond .eq 62, 3) := by decide +kernel
theorem dL_areBeats_241 : decode cL_areBeats 241 = .ok (.iload 5, 2) := by decide +kernel
theorem dL_areBeats_243 : decode cL_areBeats 243 = .ok (.aload_n 3, 1) := by decide +kernel
theorem dL_areBeats_244 : decode cL_areBeats 244 = .ok (.iload 7, 2) := by decide +kernel
theorem dL_areBeats_246 : decode cL_areBeats 246 = .ok (.iaload, 1) := by decide +kernel
theorem dL_areBeats_247 : decode cL_areBeats 247 = .ok (.isub, 1) := by decide +kernel
theorem dL_areBeats_248 : decode cL_areBeats 248 = .ok (.istore 13, 2) := by decide +kernel
theorem dL_areBeats_250 : decode cL_areBeats 250 = .ok (.iload 6, 2) := by decide +kernel
theorem dL_areBeats_252 : decode cL_areBeats 252 = .ok (.ifCond .eq 45, 3) := by decide +kernel
theorem dL_areBeats_255 : decode cL_areBeats 255 = .ok (.aload_n 0, 1) := by decide +kernel
theorem dL_areBeats_256 : decode cL_areBeats 256 = .ok (.iload 8, 2) := by decide +kernel
theorem dL_areBeats_258 : decode cL_areBeats 258 = .ok (.iload 9, 2) := by decide +kernel
theorem dL_areBeats_260 : decode cL_areBeats 260 = .ok (.invokevirtual 100, 3) := by decide +kernel
theorem dL_areBeats_263 : decode cL_areBeats 263 = .ok (.iload 13, 2) := by decide +kernel
theorem dL_areBeats_265 : decode cL_areBeats 265 = .ok (.aload 4, 2) := by decide +kernel
theorem dL_areBeats_267 : decode cL_areBeats 267 = .ok (.iconst 2, 1) := by decide +kernel
theorem dL_areBeats_268 : decode cL_areBeats 268 = .ok (.iaload, 1) := by decide +kernel
theorem dL_areBeats_269 : decode cL_areBeats 269 = .ok (.if_icmp .le 7, 3) := by decide +kernel
theorem dL_areBeats_272 : decode cL_areBeats 272 = .ok (.iconst 2, 1) := by decide +kernel
theorem dL_areBeats_273 : decode cL_areBeats 273 = .ok (.goto 17, 3) := by decide +kernel
theorem dL_areBeats_276 : decode cL_areBeats 276 = .ok (.iload 13, 2) := by decide +kernel
theorem dL_areBeats_278 : decode cL_areBeats 278 = .ok (.aload 4, 2) := by decide +kernel
theorem dL_areBeats_280 : decode cL_areBeats 280 = .ok (.iconst 1, 1) := by decide +kernel
theorem dL_areBeats_281 : decode cL_areBeats 281 = .ok (.iaload, 1) := by decide +kernel
theorem dL_areBeats_282 : decode cL_areBeats 282 = .ok (.if_icmp .le 7, 3) := by decide +kernel
theorem dL_areBeats_285 : decode cL_areBeats 285 = .ok (.iconst 1, 1) := by decide +kernel
theorem dL_areBeats_286 : decode cL_areBeats 286 = .ok (.goto 4, 3) := by decide +kernel
theorem dL_areBeats_289 : decode cL_areBeats 289 = .ok (.iconst 0, 1) := by decide +kernel
theorem dL_areBeats_290 : decode cL_areBeats 290 = .ok (.if_icmp .ne 7, 3) := by decide +kernel
theorem dL_areBeats_293 : decode cL_areBeats 293 = .ok (.iconst 1, 1) := by decide +kernel
theorem dL_areBeats_294 : decode cL_areBeats 294 = .ok (.goto 4, 3) := by decide +kernel
theorem dL_areBeats_297 : decode cL_areBeats 297 = .ok (.iconst 0, 1) := by decide +kernel
theorem dL_areBeats_298 : decode cL_areBeats 298 = .ok (.istore 6, 2) := by decide +kernel
theorem dL_areBeats_300 : decode cL_areBeats 300 = .ok (.aload_n 0, 1) := by decide +kernel
theorem dL_areBeats_301 : decode cL_areBeats 301 = .ok (.iload 8, 2) := by decide +kernel
theorem dL_areBeats_303 : decode cL_areBeats 303 = .ok (.iload 9, 2) := by decide +kernel
theorem dL_areBeats_305 : decode cL_areBeats 305 = .ok (.invokevirtual 91, 3) := by decide +kernel
theorem dL_areBeats_308 : decode cL_areBeats 308 = .ok (.ifCond .le 7, 3) := by decide +kernel
theorem dL_areBeats_311 : decode cL_areBeats 311 = .ok (.iconst 1, 1) := by decide +kernel
theorem dL_areBeats_312 : decode cL_areBeats 312 = .ok (.goto 4, 3) := by decide +kernel
theorem dL_areBeats_315 : decode cL_areBeats 315 = .ok (.iconst 0, 1) := by decide +kernel
theorem dL_areBeats_316 : decode cL_areBeats 316 = .ok (.istore 13, 2) := by decide +kernel
theorem dL_areBeats_318 : decode cL_areBeats 318 = .ok (.iload 6, 2) := by decide +kernel
theorem dL_areBeats_320 : decode cL_areBeats 320 = .ok (.ifCond .eq 138, 3) := by decide +kernel
theorem dL_areBeats_323 : decode cL_areBeats 323 = .ok (.aload_n 0, 1) := by decide +kernel
theorem dL_areBeats_324 : decode cL_areBeats 324 = .ok (.iload 8, 2) := by decide +kernel
theorem dL_areBeats_326 : decode cL_areBeats 326 = .ok (.iload 9, 2) := by decide +kernel
theorem dL_areBeats_328 : decode cL_areBeats 328 = .ok (.invokevirtual 88, 3) := by decide +kernel
theorem dL_areBeats_331 : decode cL_areBeats 331 = .ok (.ifCond .lt 7, 3) := by decide +kernel
theorem dL_areBeats_334 : decode cL_areBeats 334 = .ok (.iconst 1, 1) := by decide +kernel
theorem dL_areBeats_335 : decode cL_areBeats 335 = .ok (.goto 4, 3) := by decide +kernel
theorem dL_areBeats_338 : decode cL_areBeats 338 = .ok (.iconst 0, 1) := by decide +kernel
theorem dL_areBeats_339 : decode cL_areBeats 339 = .ok (.iload 13, 2) := by decide +kernel
theorem dL_areBeats_341 : decode cL_areBeats 341 = .ok (.if_icmp .ne 117, 3) := by decide +kernel
theorem dL_areBeats_344 : decode cL_areBeats 344 = .ok (.aload_n 0, 1) := by decide +kernel
theorem dL_areBeats_345 : decode cL_areBeats 345 = .ok (.iload 8, 2) := by decide +kernel
theorem dL_areBeats_347 : decode cL_areBeats 347 = .ok (.iload 9, 2) := by decide +kernel
theorem dL_areBeats_349 : decode cL_areBeats 349 = .ok (.invokevirtual 94, 3) := by decide +kernel
theorem dL_areBeats_352 : decode cL_areBeats 352 = .ok (.ifCond .lt 7, 3) := by decide +kernel
theorem dL_areBeats_355 : decode cL_areBeats 355 = .ok (.iconst 1, 1) := by decide +kernel
theorem dL_areBeats_356 : decode cL_areBeats 356 = .ok (.goto 4, 3) := by decide +kernel
theorem dL_areBeats_359 : decode cL_areBeats 359 = .ok (.iconst 0, 1) := by decide +kernel
theorem dL_areBeats_360 : decode cL_areBeats 360 = .ok (.iload 13, 2) := by decide +kernel
theorem dL_areBeats_362 : decode cL_areBeats 362 = .ok (.if_icmp .ne 96, 3) := by decide +kernel
theorem dL_areBeats_365 : decode cL_areBeats 365 = .ok (.aload_n 0, 1) := by decide +kernel
theorem dL_areBeats_366 : decode cL_areBeats 366 = .ok (.iload 8, 2) := by decide +kernel
theorem dL_areBeats_368 : decode cL_areBeats 368 = .ok (.iload 9, 2) := by decide +kernel
theorem dL_areBeats_370 : decode cL_areBeats 370 = .ok (.invokevirtual 94, 3) := by decide +kernel
theorem dL_areBeats_373 : decode cL_areBeats 373 = .ok (.iload 5, 2) := by decide +kernel
theorem dL_areBeats_375 : decode cL_areBeats 375 = .ok (.if_icmp .gt 83, 3) := by decide +kernel
theorem dL_areBeats_378 : decode cL_areBeats 378 = .ok (.aload_n 0, 1) := by decide +kernel
theorem dL_areBeats_379 : decode cL_areBeats 379 = .ok (.iload 8, 2) := by decide +kernel
theorem dL_areBeats_381 : decode cL_areBeats 381 = .ok (.iload 9, 2) := by decide +kernel
theorem dL_areBeats_383 : decode cL_areBeats 383 = .ok (.invokevirtual 91, 3) := by decide +kernel
theorem dL_areBeats_386 : decode cL_areBeats 386 = .ok (.aload_n 0, 1) := by decide +kernel
theorem dL_areBeats_387 : decode cL_areBeats 387 = .ok (.iload 9, 2) := by decide +kernel
theorem dL_areBeats_389 : decode cL_areBeats 389 = .ok (.iload 9, 2) := by decide +kernel
theorem dL_areBeats_391 : decode cL_areBeats 391 = .ok (.invokevirtual 91, 3) := by decide +kernel
theorem dL_areBeats_394 : decode cL_areBeats 394 = .ok (.if_icmp .gt 64, 3) := by decide +kernel
theorem dL_areBeats_397 : decode cL_areBeats 397 = .ok (.aload_n 0, 1) := by decide +kernel
theorem dL_areBeats_398 : decode cL_areBeats 398 = .ok (.iload 8, 2) := by decide +kernel
theorem dL_areBeats_400 : decode cL_areBeats 400 = .ok (.iload 9, 2) := by decide +kernel
theorem dL_areBeats_402 : decode cL_areBeats 402 = .ok (.invokevirtual 91, 3) := by decide +kernel
theorem dL_areBeats_405 : decode cL_areBeats 405 = .ok (.aload_n 0, 1) := by decide +kernel
theorem dL_areBeats_406 : decode cL_areBeats 406 = .ok (.iload 9, 2) := by decide +kernel
theorem dL_areBeats_408 : decode cL_areBeats 408 = .ok (.iload 9, 2) := by decide +kernel
theorem dL_areBeats_410 : decode cL_areBeats 410 = .ok (.invokevirtual 91, 3) := by decide +kernel
theorem dL_areBeats_413 : decode cL_areBeats 413 = .ok (.if_icmp .ne 41, 3) := by decide +kernel
theorem dL_areBeats_416 : decode cL_areBeats 416 = .ok (.aload_n 0, 1) := by decide +kernel
theorem dL_areBeats_417 : decode cL_areBeats 417 = .ok (.iload 8, 2) := by decide +kernel
theorem dL_areBeats_419 : decode cL_areBeats 419 = .ok (.iload 9, 2) := by decide +kernel
theorem dL_areBeats_421 : decode cL_areBeats 421 = .ok (.invokevirtual 88, 3) := by decide +kernel
theorem dL_areBeats_424 : decode cL_areBeats 424 = .ok (.aload_n 0, 1) := by decide +kernel
theorem dL_areBeats_425 : decode cL_areBeats 425 = .ok (.iload 9, 2) := by decide +kernel
theorem dL_areBeats_427 : decode cL_areBeats 427 = .ok (.iload 9, 2) := by decide +kernel
theorem dL_areBeats_429 : decode cL_areBeats 429 = .ok (.invokevirtual 88, 3) := by decide +kernel
theorem dL_areBeats_432 : decode cL_areBeats 432 = .ok (.if_icmp .ne 26, 3) := by decide +kernel
theorem dL_areBeats_435 : decode cL_areBeats 435 = .ok (.aload_n 0, 1) := by decide +kernel
theorem dL_areBeats_436 : decode cL_areBeats 436 = .ok (.iload 8, 2) := by decide +kernel
theorem dL_areBeats_438 : decode cL_areBeats 438 = .ok (.iload 9, 2) := by decide +kernel
theorem dL_areBeats_440 : decode cL_areBeats 440 = .ok (.invokevirtual 94, 3) := by decide +kernel
theorem dL_areBeats_443 : decode cL_areBeats 443 = .ok (.aload_n 0, 1) := by decide +kernel
theorem dL_areBeats_444 : decode cL_areBeats 444 = .ok (.iload 9, 2) := by decide +kernel
theorem dL_areBeats_446 : decode cL_areBeats 446 = .ok (.iload 9, 2) := by decide +kernel
theorem dL_areBeats_448 : decode cL_areBeats 448 = .ok (.invokevirtual 94, 3) := by decide +kernel
theorem dL_areBeats_451 : decode cL_areBeats 451 = .ok (.if_icmp .ne 7, 3) := by decide +kernel
theorem dL_areBeats_454 : decode cL_areBeats 454 = .ok (.iconst 1, 1) := by decide +kernel
theorem dL_areBeats_455 : decode cL_areBeats 455 = .ok (.goto 4, 3) := by decide +kernel
theorem dL_areBeats_458 : decode cL_areBeats 458 = .ok (.iconst 0, 1) := by decide +kernel
theorem dL_areBeats_459 : decode cL_areBeats 459 = .ok (.istore 6, 2) := by decide +kernel
theorem dL_areBeats_461 : decode cL_areBeats 461 = .ok (.iinc 7 1, 3) := by decide +kernel
theorem dL_areBeats_464 : decode cL_areBeats 464 = .ok (.goto (-452), 3) := by decide +kernel
theorem dL_areBeats_467 : decode cL_areBeats 467 = .ok (.iload 6, 2) := by decide +kernel
theorem dL_areBeats_469 : decode cL_areBeats 469 = .ok (.ireturn, 1) := by decide +kernel
set_option maxRecDepth 20000 in
theorem ggL_areGates_X3_believed : GoodIn wsL_areGates wsX3_believed := goodIn_ca (goodIn_r _ [5, 6, 7, 8, 9, 4, 10, 11, 12, 13, 14, 15, 16, 17, 18, 19, 20, 21, 39, 40, 41, 42, 43, 44, 45, 46, 47, 48, 49, 50, 51, 52, 53, 54] (by decide +kernel) (by decide +kernel)) (goodIn_sub (fun _ h => List.mem_cons_of_mem _ (List.mem_append_right _ h)) (by decide +kernel))
set_option maxRecDepth 20000 in
theorem gL_areGates_X3_believed : GoodIn wsL_areGates (wsV RL 88 RX3 yX3_believed wsX3_believed) := goodIn_app (goodIn_of _ (by decide +kernel)) ggL_areGates_X3_believed
set_option maxRecDepth 20000 in
theorem ggL_areGates_X3_age : GoodIn wsL_areGates wsX3_age := goodIn_ca (goodIn_r _ [25, 6, 26, 27, 8, 9, 4, 10, 11, 12, 13, 14, 15, 16, 17, 18, 19, 20, 21, 39, 40, 41, 42, 43, 44, 45, 46, 47, 48, 49, 50, 51, 52, 53, 54] (by decide +kernel) (by decide +kernel)) (goodIn_sub (fun _ h => List.mem_cons_of_mem _ (List.mem_append_right _ h)) (by decide +kernel))
set_option maxRecDepth 20000 in
theorem gL_areGates_X3_age : GoodIn wsL_areGates (wsV RL 94 RX3 yX3_age wsX3_age) := goodIn_app (goodIn_of _ (by decide +kernel)) ggL_areGates_X3_age
set_option maxRecDepth 20000 in
theorem ggL_areGates_X3_opening : GoodIn wsL_areGates wsX3_opening := goodIn_ca (goodIn_r _ [31, 32, 33, 8, 9, 4, 10, 11, 12, 13, 14, 15, 39, 40, 41, 42, 55, 56, 57, 58, 59, 60, 61, 62] (by decide +kernel) (by decide +kernel)) (goodIn_sub (fun _ h => List.mem_cons_of_mem _ (List.mem_append_right _ h)) (by decide +kernel))
set_option maxRecDepth 20000 in
theorem gL_areGates_X3_opening : GoodIn wsL_areGates (wsV RL 73 RX3 yX3_opening wsX3_opening) := goodIn_app (goodIn_of _ (by decide +kernel)) ggL_areGates_X3_opening
set_option maxRecDepth 20000 in
theorem ggL_areGates_X3_safety : GoodIn wsL_areGates wsX3_safety := goodIn_ca (goodIn_r _ [37, 32, 38, 8, 9, 4, 10, 11, 12, 13, 14, 15, 39, 40, 41, 42, 55, 56, 57, 58, 59, 60, 61, 62] (by decide +kernel) (by decide +kernel)) (goodIn_sub (fun _ h => List.mem_cons_of_mem _ (List.mem_append_right _ h)) (by decide +kernel))
set_option maxRecDepth 20000 in
theorem gL_areGates_X3_safety : GoodIn wsL_areGates (wsV RL 76 RX3 yX3_safety wsX3_safety) := goodIn_app (goodIn_of _ (by decide +kernel)) ggL_areGates_X3_safety
theorem dL_areGates_0 : decode cL_areGates 0 = .ok (.iconst 1, 1) := by decide +kernel
theorem dL_areGates_1 : decode cL_areGates 1 = .ok (.istore 4, 2) := by decide +kernel
theorem dL_areGates_3 : decode cL_areGates 3 = .ok (.iconst 0, 1) := by decide +kernel
theorem dL_areGates_4 : decode cL_areGates 4 = .ok (.istore 5, 2) := by decide +kernel
theorem dL_areGates_6 : decode cL_areGates 6 = .ok (.iload 5, 2) := by decide +kernel
theorem dL_areGates_8 : decode cL_areGates 8 = .ok (.bipush 8, 2) := by decide +kernel
theorem dL_areGates_10 : decode cL_areGates 10 = .ok (.if_icmp .ge 306, 3) := by decide +kernel
theorem dL_areGates_13 : decode cL_areGates 13 = .ok (.iload 4, 2) := by decide +kernel
theorem dL_areGates_15 : decode cL_areGates 15 = .ok (.ifCond .eq 301, 3) := by decide +kernel
theorem dL_areGates_18 : decode cL_areGates 18 = .ok (.aload_n 2, 1) := by decide +kernel
theorem dL_areGates_19 : decode cL_areGates 19 = .ok (.bipush 8, 2) := by decide +kernel
theorem dL_areGates_21 : decode cL_areGates 21 = .ok (.iload 5, 2) := by decide +kernel
theorem dL_areGates_23 : decode cL_areGates 23 = .ok (.imul, 1) := by decide +kernel
theorem dL_areGates_24 : decode cL_areGates 24 = .ok (.bipush 7, 2) := by decide +kernel
theorem dL_areGates_26 : decode cL_areGates 26 = .ok (.iadd, 1) := by decide +kernel
theorem dL_areGates_27 : decode cL_areGates 27 = .ok (.iaload, 1) := by decide +kernel
theorem dL_areGates_28 : decode cL_areGates 28 = .ok (.istore 6, 2) := by decide +kernel
theorem dL_areGates_30 : decode cL_areGates 30 = .ok (.iload 6, 2) := by decide +kernel
theorem dL_areGates_32 : decode cL_areGates 32 = .ok (.istore 7, 2) := by decide +kernel
theorem dL_areGates_34 : decode cL_areGates 34 = .ok (.aload_n 2, 1) := by decide +kernel
theorem dL_areGates_35 : decode cL_areGates 35 = .ok (.bipush 8, 2) := by decide +kernel
theorem dL_areGates_37 : decode cL_areGates 37 = .ok (.iload 5, 2) := by decide +kernel
theorem dL_areGates_39 : decode cL_areGates 39 = .ok (.imul, 1) := by decide +kernel
theorem dL_areGates_40 : decode cL_areGates 40 = .ok (.iaload, 1) := by decide +kernel
theorem dL_areGates_41 : decode cL_areGates 41 = .ok (.ifCond .ne 19, 3) := by decide +kernel
theorem dL_areGates_44 : decode cL_areGates 44 = .ok (.aload_n 2, 1) := by decide +kernel
theorem dL_areGates_45 : decode cL_areGates 45 = .ok (.bipush 8, 2) := by decide +kernel
theorem dL_areGates_47 : decode cL_areGates 47 = .ok (.iload 5, 2) := by decide +kernel
theorem dL_areGates_49 : decode cL_areGates 49 = .ok (.imul, 1) := by decide +kernel
theorem dL_areGates_50 : decode cL_areGates 50 = .ok (.iconst 1, 1) := by decide +kernel
theorem dL_areGates_51 : decode cL_areGates 51 = .ok (.iadd, 1) := by decide +kernel
theorem dL_areGates_52 : decode cL_areGates 52 = .ok (.iaload, 1) := by decide +kernel
theorem dL_areGates_53 : decode cL_areGates 53 = .ok (.ifCond .ne 7, 3) := by decide +kernel
theorem dL_areGates_56 : decode cL_areGates 56 = .ok (.iconst 1, 1) := by decide +kernel
theorem dL_areGates_57 : decode cL_areGates 57 = .ok (.goto 4, 3) := by decide +kernel
theorem dL_areGates_60 : decode cL_areGates 60 = .ok (.iconst 0, 1) := by decide +kernel
theorem dL_areGates_61 : decode cL_areGates 61 = .ok (.istore 8, 2) := by decide +kernel
theorem dL_areGates_63 : decode cL_areGates 63 = .ok (.iload 5, 2) := by decide +kernel
theorem dL_areGates_65 : decode cL_areGates 65 = .ok (.bipush 7, 2) := by decide +kernel
theorem dL_areGates_67 : decode cL_areGates 67 = .ok (.if_icmp .ge 54, 3) := by decide +kernel
theorem dL_areGates_70 : decode cL_areGates 70 = .ok (.aload_n 0, 1) := by decide +kernel
theorem dL_areGates_71 : decode cL_areGates 71 = .ok (.iload 5, 2) := by decide +kernel
theorem dL_areGates_73 : decode cL_areGates 73 = .ok (.iload 5, 2) := by decide +kernel
theorem dL_areGates_75 : decode cL_areGates 75 = .ok (.bipush 7, 2) := by decide +kernel
theorem dL_areGates_77 : decode cL_areGates 77 = .ok (.if_icmp .ge 10, 3) := by decide +kernel
theorem dL_areGates_80 : decode cL_areGates 80 = .ok (.iload 5, 2) := by decide +kernel
theorem dL_areGates_82 : decode cL_areGates 82 = .ok (.iconst 1, 1) := by decide +kernel
theorem dL_areGates_83 : decode cL_areGates 83 = .ok (.iadd, 1) := by decide +kernel
theorem dL_areGates_84 : decode cL_areGates 84 = .ok (.goto 4, 3) := by decide +kernel
theorem dL_areGates_87 : decode cL_areGates 87 = .ok (.iconst 0, 1) := by decide +kernel
theorem dL_areGates_88 : decode cL_areGates 88 = .ok (.invokevirtual 88, 3) := by decide +kernel
theorem dL_areGates_91 : decode cL_areGates 91 = .ok (.ifCond .lt 26, 3) := by decide +kernel
theorem dL_areGates_94 : decode cL_areGates 94 = .ok (.aload_n 0, 1) := by decide +kernel
theorem dL_areGates_95 : decode cL_areGates 95 = .ok (.iload 5, 2) := by decide +kernel
theorem dL_areGates_97 : decode cL_areGates 97 = .ok (.iload 5, 2) := by decide +kernel
theorem dL_areGates_99 : decode cL_areGates 99 = .ok (.iconst 1, 1) := by decide +kernel
theorem dL_areGates_100 : decode cL_areGates 100 = .ok (.iadd, 1) := by decide +kernel
theorem dL_areGates_101 : decode cL_areGates 101 = .ok (.invokevirtual 94, 3) := by decide +kernel
theorem dL_areGates_104 : decode cL_areGates 104 = .ok (.aload_n 1, 1) := by decide +kernel
theorem dL_areGates_105 : decode cL_areGates 105 = .ok (.bipush 8, 2) := by decide +kernel
theorem dL_areGates_107 : decode cL_areGates 107 = .ok (.iload 5, 2) := by decide +kernel
theorem dL_areGates_109 : decode cL_areGates 109 = .ok (.imul, 1) := by decide +kernel
theorem dL_areGates_110 : decode cL_areGates 110 = .ok (.bipush 7, 2) := by decide +kernel
theorem dL_areGates_112 : decode cL_areGates 112 = .ok (.iadd, 1) := by decide +kernel
theorem dL_areGates_113 : decode cL_areGates 113 = .ok (.iaload, 1) := by decide +kernel
theorem dL_areGates_114 : decode cL_areGates 114 = .ok (.if_icmp .le 7, 3) := by decide +kernel
theorem dL_areGates_117 : decode cL_areGates 117 = .ok (.iconst 1, 1) := by decide +kernel
theorem dL_areGates_118 : decode cL_areGates 118 = .ok (.goto 4, 3) := by decide +kernel
theorem dL_areGates_121 : decode cL_areGates 121 = .ok (.iconst 0, 1) := by decide +kernel
theorem dL_areGates_122 : decode cL_areGates 122 = .ok (.istore 9, 2) := by decide +kernel
theorem dL_areGates_124 : decode cL_areGates 124 = .ok (.iload 8, 2) := by decide +kernel
theorem dL_areGates_126 : decode cL_areGates 126 = .ok (.ifCond .eq 37, 3) := by decide +kernel
theorem dL_areGates_129 : decode cL_areGates 129 = .ok (.iload 9, 2) := by decide +kernel
theorem dL_areGates_131 : decode cL_areGates 131 = .ok (.ifCond .eq 32, 3) := by decide +kernel
theorem dL_areGates_134 : decode cL_areGates 134 = .ok (.iload 6, 2) := by decide +kernel
theorem dL_areGates_136 : decode cL_areGates 136 = .ok (.bipush 8, 2) := by decide +kernel
theorem dL_areGates_138 : decode cL_areGates 138 = .ok (.if_icmp .le 8, 3) := by decide +kernel
theorem dL_areGates_141 : decode cL_areGates 141 = .ok (.bipush 10, 2) := by decide +kernel
theorem dL_areGates_143 : decode cL_areGates 143 = .ok (.goto 7, 3) := by decide +kernel
theorem dL_areGates_146 : decode cL_areGates 146 = .ok (.iload 6, 2) := by decide +kernel
theorem dL_areGates_148 : decode cL_areGates 148 = .ok (.iconst 2, 1) := by decide +kernel
theorem dL_areGates_149 : decode cL_areGates 149 = .ok (.iadd, 1) := by decide +kernel
theorem dL_areGates_150 : decode cL_areGates 150 = .ok (.istore 7, 2) := by decide +kernel
theorem dL_areGates_152 : decode cL_areGates 152 = .ok (.aload_n 3, 1) := by decide +kernel
theorem dL_areGates_153 : decode cL_areGates 153 = .ok (.iload 5, 2) := by decide +kernel
theorem dL_areGates_155 : decode cL_areGates 155 = .ok (.dup2, 1) := by decide +kernel
theorem dL_areGates_156 : decode cL_areGates 156 = .ok (.iaload, 1) := by decide +kernel
theorem dL_areGates_157 : decode cL_areGates 157 = .ok (.iconst 1, 1) := by decide +kernel
theorem dL_areGates_158 : decode cL_areGates 158 = .ok (.iadd, 1) := by decide +kernel
theorem dL_areGates_159 : decode cL_areGates 159 = .ok (.iastore, 1) := by decide +kernel
theorem dL_areGates_160 : decode cL_areGates 160 = .ok (.goto 119, 3) := by decide +kernel
theorem dL_areGates_163 : decode cL_areGates 163 = .ok (.iload 8, 2) := by decide +kernel
theorem dL_areGates_165 : decode cL_areGates 165 = .ok (.ifCond .eq 74, 3) := by decide +kernel
theorem dL_areGates_168 : decode cL_areGates 168 = .ok (.aload_n 0, 1) := by decide +kernel
theorem dL_areGates_169 : decode cL_areGates 169 = .ok (.iload 5, 2) := by decide +kernel
theorem dL_areGates_171 : decode cL_areGates 171 = .ok (.iload 5, 2) := by decide +kernel
theorem dL_areGates_173 : decode cL_areGates 173 = .ok (.invokevirtual 88, 3) := by decide +kernel
theorem dL_areGates_176 : decode cL_areGates 176 = .ok (.aload_n 1, 1) := by decide +kernel
theorem dL_areGates_177 : decode cL_areGates 177 = .ok (.bipush 8, 2) := by decide +kernel
theorem dL_areGates_179 : decode cL_areGates 179 = .ok (.iload 5, 2) := by decide +kernel
theorem dL_areGates_181 : decode cL_areGates 181 = .ok (.imul, 1) := by decide +kernel
theorem dL_areGates_182 : decode cL_areGates 182 = .ok (.iconst 5, 1) := by decide +kernel
theorem dL_areGates_183 : decode cL_areGates 183 = .ok (.iadd, 1) := by decide +kernel
theorem dL_areGates_184 : decode cL_areGates 184 = .ok (.iaload, 1) := by decide +kernel
theorem dL_areGates_185 : decode cL_areGates 185 = .ok (.if_icmp .le 54, 3) := by decide +kernel
theorem dL_areGates_188 : decode cL_areGates 188 = .ok (.iload 5, 2) := by decide +kernel
theorem dL_areGates_190 : decode cL_areGates 190 = .ok (.bipush 7, 2) := by decide +kernel
theorem dL_areGates_192 : decode cL_areGates 192 = .ok (.if_icmp .eq 26, 3) := by decide +kernel
theorem dL_areGates_195 : decode cL_areGates 195 = .ok (.aload_n 0, 1) := by decide +kernel
theorem dL_areGates_196 : decode cL_areGates 196 = .ok (.iload 5, 2) := by decide +kernel
theorem dL_areGates_198 : decode cL_areGates 198 = .ok (.iload 5, 2) := by decide +kernel
theorem dL_areGates_200 : decode cL_areGates 200 = .ok (.iconst 1, 1) := by decide +kernel
theorem dL_areGates_201 : decode cL_areGates 201 = .ok (.iadd, 1) := by decide +kernel
theorem dL_areGates_202 : decode cL_areGates 202 = .ok (.invokevirtual 88, 3) := by decide +kernel
theorem dL_areGates_205 : decode cL_areGates 205 = .ok (.aload_n 1, 1) := by decide +kernel
theorem dL_areGates_206 : decode cL_areGates 206 = .ok (.bipush 8, 2) := by decide +kernel
theorem dL_areGates_208 : decode cL_areGates 208 = .ok (.iload 5, 2) := by decide +kernel
theorem dL_areGates_210 : decode cL_areGates 210 = .ok (.imul, 1) := by decide +kernel
theorem dL_areGates_211 : decode cL_areGates 211 = .ok (.bipush 6, 2) := by decide +kernel
theorem dL_areGates_213 : decode cL_areGates 213 = .ok (.iadd, 1) := by decide +kernel
theorem dL_areGates_214 : decode cL_areGates 214 = .ok (.iaload, 1) := by decide +kernel
theorem dL_areGates_215 : decode cL_areGates 215 = .ok (.if_icmp .ge 24, 3) := by decide +kernel
theorem dL_areGates_218 : decode cL_areGates 218 = .ok (.iload 6, 2) := by decide +kernel
theorem dL_areGates_220 : decode cL_areGates 220 = .ok (.bipush 10, 2) := by decide +kernel
theorem dL_areGates_222 : decode cL_areGates 222 = .ok (.if_icmp .ge 10, 3) := by decide +kernel
theorem dL_areGates_225 : decode cL_areGates 225 = .ok (.iload 6, 2) := by decide +kernel
theorem dL_areGates_227 : decode cL_areGates 227 = .ok (.iconst 1, 1) := by decide +kernel
theorem dL_areGates_228 : decode cL_areGates 228 = .ok (.iadd, 1) := by decide +kernel
theorem dL_areGates_229 : decode cL_areGates 229 = .ok (.goto 5, 3) := by decide +kernel
theorem dL_areGates_232 : decode cL_areGates 232 = .ok (.bipush 10, 2) := by decide +kernel
theorem dL_areGates_234 : decode cL_areGates 234 = .ok (.istore 7, 2) := by decide +kernel
theorem dL_areGates_236 : decode cL_areGates 236 = .ok (.goto 43, 3) := by decide +kernel
theorem dL_areGates_239 : decode cL_areGates 239 = .ok (.iload 8, 2) := by decide +kernel
theorem dL_areGates_241 : decode cL_areGates 241 = .ok (.ifCond .eq 38, 3) := by decide +kernel
theorem dL_areGates_244 : decode cL_areGates 244 = .ok (.aload_n 0, 1) := by decide +kernel
theorem dL_areGates_245 : decode cL_areGates 245 = .ok (.iload 5, 2) := by decide +kernel
theorem dL_areGates_247 : decode cL_areGates 247 = .ok (.iload 5, 2) := by decide +kernel
theorem dL_areGates_249 : decode cL_areGates 249 = .ok (.invokevirtual 88, 3) := by decide +kernel
theorem dL_areGates_252 : decode cL_areGates 252 = .ok (.aload_n 1, 1) := by decide +kernel
theorem dL_areGates_253 : decode cL_areGates 253 = .ok (.bipush 8, 2) := by decide +kernel
theorem dL_areGates_255 : decode cL_areGates 255 = .ok (.iload 5, 2) := by decide +kernel
theorem dL_areGates_257 : decode cL_areGates 257 = .ok (.imul, 1) := by decide +kernel
theorem dL_areGates_258 : decode cL_areGates 258 = .ok (.iconst 4, 1) := by decide +kernel
theorem dL_areGates_259 : decode cL_areGates 259 = .ok (.iadd, 1) := by decide +kernel
theorem dL_areGates_260 : decode cL_areGates 260 = .ok (.iaload, 1) := by decide +kernel
theorem dL_areGates_261 : decode cL_areGates 261 = .ok (.if_icmp .ge 18, 3) := by decide +kernel
theorem dL_areGates_264 : decode cL_areGates 264 = .ok (.iload 6, 2) := by decide +kernel
theorem dL_areGates_266 : decode cL_areGates 266 = .ok (.ifCond .le 10, 3) := by decide +kernel
theorem dL_areGates_269 : decode cL_areGates 269 = .ok (.iload 6, 2) := by decide +kernel
theorem dL_areGates_271 : decode cL_areGates 271 = .ok (.iconst 1, 1) := by decide +kernel
theorem dL_areGates_272 : decode cL_areGates 272 = .ok (.isub, 1) := by decide +kernel
theorem dL_areGates_273 : decode cL_areGates 273 = .ok (.goto 4, 3) := by decide +kernel
theorem dL_areGates_276 : decode cL_areGates 276 = .ok (.iconst 0, 1) := by decide +kernel
theorem dL_areGates_277 : decode cL_areGates 277 = .ok (.istore 7, 2) := by decide +kernel
theorem dL_areGates_279 : decode cL_areGates 279 = .ok (.aload_n 0, 1) := by decide +kernel
theorem dL_areGates_280 : decode cL_areGates 280 = .ok (.iload 5, 2) := by decide +kernel
theorem dL_areGates_282 : decode cL_areGates 282 = .ok (.invokevirtual 73, 3) := by decide +kernel
theorem dL_areGates_285 : decode cL_areGates 285 = .ok (.iload 7, 2) := by decide +kernel
theorem dL_areGates_287 : decode cL_areGates 287 = .ok (.if_icmp .ne 20, 3) := by decide +kernel
theorem dL_areGates_290 : decode cL_areGates 290 = .ok (.aload_n 0, 1) := by decide +kernel
theorem dL_areGates_291 : decode cL_areGates 291 = .ok (.iload 5, 2) := by decide +kernel
theorem dL_areGates_293 : decode cL_areGates 293 = .ok (.invokevirtual 76, 3) := by decide +kernel
theorem dL_areGates_296 : decode cL_areGates 296 = .ok (.aload_n 3, 1) := by decide +kernel
theorem dL_areGates_297 : decode cL_areGates 297 = .ok (.iload 5, 2) := by decide +kernel
theorem dL_areGates_299 : decode cL_areGates 299 = .ok (.iaload, 1) := by decide +kernel
theorem dL_areGates_300 : decode cL_areGates 300 = .ok (.if_icmp .ne 7, 3) := by decide +kernel
theorem dL_areGates_303 : decode cL_areGates 303 = .ok (.iconst 1, 1) := by decide +kernel
theorem dL_areGates_304 : decode cL_areGates 304 = .ok (.goto 4, 3) := by decide +kernel
theorem dL_areGates_307 : decode cL_areGates 307 = .ok (.iconst 0, 1) := by decide +kernel
theorem dL_areGates_308 : decode cL_areGates 308 = .ok (.istore 4, 2) := by decide +kernel
theorem dL_areGates_310 : decode cL_areGates 310 = .ok (.iinc 5 1, 3) := by decide +kernel
theorem dL_areGates_313 : decode cL_areGates 313 = .ok (.goto (-307), 3) := by decide +kernel
theorem dL_areGates_316 : decode cL_areGates 316 = .ok (.iload 4, 2) := by decide +kernel
theorem dL_areGates_318 : decode cL_areGates 318 = .ok (.ireturn, 1) := by decide +kernel
set_option maxRecDepth 20000 in
theorem ggL_areMembers_X3_believed : GoodIn wsL_areMembers wsX3_believed := goodIn_ca (goodIn_r _ [5, 6, 7, 8, 9, 4, 10, 11, 12, 13, 14, 15, 16, 17, 18, 19, 20, 21, 102, 103, 104, 105, 106, 107, 108, 109, 110, 111, 112, 113, 114, 115, 116, 117] (by decide +kernel) (by decide +kernel)) (goodIn_sub (fun _ h => List.mem_cons_of_mem _ (List.mem_append_right _ h)) (by decide +kernel))
set_option maxRecDepth 20000 in
theorem gL_areMembers_X3_believed : GoodIn wsL_areMembers (wsV RL 88 RX3 yX3_believed wsX3_believed) := goodIn_app (goodIn_of _ (by decide +kernel)) ggL_areMembers_X3_believed
set_option maxRecDepth 20000 in
theorem ggL_areMembers_X3_level : GoodIn wsL_areMembers wsX3_level := goodIn_ca (goodIn_r _ [25, 26, 8, 9, 4, 10, 11, 12, 13, 14, 15, 27, 28, 29, 30, 31, 32, 33, 102, 103, 104, 105, 118, 119, 120, 121, 122, 123, 124, 125] (by decide +kernel) (by decide +kernel)) (goodIn_sub (fun _ h => List.mem_cons_of_mem _ (List.mem_append_right _ h)) (by decide +kernel))
set_option maxRecDepth 20000 in
theorem gL_areMembers_X3_level : GoodIn wsL_areMembers (wsV RL 64 RX3 yX3_level wsX3_level) := goodIn_app (goodIn_of _ (by decide +kernel)) ggL_areMembers_X3_level
set_option maxRecDepth 20000 in
theorem ggL_areMembers_X3_version : GoodIn wsL_areMembers wsX3_version := goodIn_ca (goodIn_r _ [37, 6, 38, 8, 9, 4, 10, 11, 12, 13, 14, 15, 102, 103, 104, 105, 106, 107, 108, 109, 110, 111, 112, 113, 114, 115, 116, 117] (by decide +kernel) (by decide +kernel)) (goodIn_sub (fun _ h => List.mem_cons_of_mem _ (List.mem_append_right _ h)) (by decide +kernel))
set_option maxRecDepth 20000 in
theorem gL_areMembers_X3_version : GoodIn wsL_areMembers (wsV RL 91 RX3 yX3_version wsX3_version) := goodIn_app (goodIn_of _ (by decide +kernel)) ggL_areMembers_X3_version
set_option maxRecDepth 20000 in
theorem ggL_areMembers_X3_status : GoodIn wsL_areMembers wsX3_status := goodIn_ca (goodIn_r _ [42, 6, 43, 8, 9, 4, 10, 11, 12, 13, 14, 15, 102, 103, 104, 105, 106, 107, 108, 109, 110, 111, 112, 113, 114, 115, 116, 117] (by decide +kernel) (by decide +kernel)) (goodIn_sub (fun _ h => List.mem_cons_of_mem _ (List.mem_append_right _ h)) (by decide +kernel))
set_option maxRecDepth 20000 in
theorem gL_areMembers_X3_status : GoodIn wsL_areMembers (wsV RL 100 RX3 yX3_status wsX3_status) := goodIn_app (goodIn_of _ (by decide +kernel)) ggL_areMembers_X3_status
set_option maxRecDepth 20000 in
theorem ggL_areMembers_X3_partner : GoodIn wsL_areMembers wsX3_partner := goodIn_ca (goodIn_r _ [47, 6, 48, 49, 8, 9, 4, 10, 11, 12, 13, 14, 15, 50, 51, 52, 19, 53, 54, 55, 56, 57, 58, 102, 103, 104, 105, 106, 107, 108, 109, 110, 111, 112, 113, 114, 115, 116, 117] (by decide +kernel) (by decide +kernel)) (goodIn_sub (fun _ h => List.mem_cons_of_mem _ (List.mem_append_right _ h)) (by decide +kernel))
set_option maxRecDepth 20000 in
theorem gL_areMembers_X3_partner : GoodIn wsL_areMembers (wsV RL 79 RX3 yX3_partner wsX3_partner) := goodIn_app (goodIn_of _ (by decide +kernel)) ggL_areMembers_X3_partner
set_option maxRecDepth 20000 in
theorem ggL_areMembers_X3_agree : GoodIn wsL_areMembers wsX3_agree := goodIn_ca (goodIn_r _ [62, 6, 26, 8, 9, 4, 10, 11, 12, 13, 14, 15, 27, 28, 29, 30, 31, 32, 33, 63, 64, 65, 19, 66, 67, 68, 69, 17, 18, 20, 21, 102, 103, 104, 105, 118, 119, 120, 121, 122, 123, 124, 125, 106, 107, 108, 109, 110, 111, 112, 113, 114, 115, 116, 117] (by decide +kernel) (by decide +kernel)) (goodIn_sub (fun _ h => List.mem_cons_of_mem _ (List.mem_append_right _ h)) (by decide +kernel))
set_option maxRecDepth 20000 in
theorem gL_areMembers_X3_agree : GoodIn wsL_areMembers (wsV RL 85 RX3 yX3_agree wsX3_agree) := goodIn_app (goodIn_of _ (by decide +kernel)) ggL_areMembers_X3_agree
set_option maxRecDepth 20000 in
theorem ggL_areMembers_X3_freshest : GoodIn wsL_areMembers wsX3_freshest := goodIn_ca (goodIn_r _ [73, 6, 8, 9, 4, 10, 11, 12, 13, 14, 15, 74, 75, 76, 19, 77, 21, 102, 103, 104, 105, 106, 107, 108, 109, 110, 111, 112, 113, 114, 115, 116, 117] (by decide +kernel) (by decide +kernel)) (goodIn_sub (fun _ h => List.mem_cons_of_mem _ (List.mem_append_right _ h)) (by decide +kernel))
set_option maxRecDepth 20000 in
theorem gL_areMembers_X3_freshest : GoodIn wsL_areMembers (wsV RL 82 RX3 yX3_freshest wsX3_freshest) := goodIn_app (goodIn_of _ (by decide +kernel)) ggL_areMembers_X3_freshest
set_option maxRecDepth 20000 in
theorem ggL_areMembers_X3_time : GoodIn wsL_areMembers wsX3_time := goodIn_r _ [81, 49, 102, 103, 104, 105] (by decide +kernel) (by decide +kernel)
set_option maxRecDepth 20000 in
theorem gL_areMembers_X3_time : GoodIn wsL_areMembers (wsV RL 103 RX3 yX3_time wsX3_time) := goodIn_app (goodIn_of _ (by decide +kernel)) ggL_areMembers_X3_time
set_option maxRecDepth 20000 in
theorem ggL_areMembers_X3_unnoticed : GoodIn wsL_areMembers wsX3_unnoticed := goodIn_r _ [85, 6, 86, 87, 88, 19, 89, 67, 90, 91, 92, 93, 58, 102, 103, 104, 105, 106, 107, 108, 109, 110, 111, 112, 113, 114, 115, 116, 117] (by decide +kernel) (by decide +kernel)
set_option maxRecDepth 20000 in
theorem gL_areMembers_X3_unnoticed : GoodIn wsL_areMembers (wsV RL 114 RX3 yX3_unnoticed wsX3_unnoticed) := goodIn_app (goodIn_of _ (by decide +kernel)) ggL_areMembers_X3_unnoticed
set_option maxRecDepth 20000 in
theorem ggL_areMembers_X3_mistaken : GoodIn wsL_areMembers wsX3_mistaken := goodIn_r _ [97, 6, 98, 99, 100, 19, 101, 67, 90, 91, 92, 93, 58, 102, 103, 104, 105, 106, 107, 108, 109, 110, 111, 112, 113, 114, 115, 116, 117] (by decide +kernel) (by decide +kernel)
set_option maxRecDepth 20000 in
theorem gL_areMembers_X3_mistaken : GoodIn wsL_areMembers (wsV RL 119 RX3 yX3_mistaken wsX3_mistaken) := goodIn_app (goodIn_of _ (by decide +kernel)) ggL_areMembers_X3_mistaken
theorem dL_areMembers_0 : decode cL_areMembers 0 = .ok (.iconst 0, 1) := by decide +kernel
theorem dL_areMembers_1 : decode cL_areMembers 1 = .ok (.istore_n 2, 1) := by decide +kernel
theorem dL_areMembers_2 : decode cL_areMembers 2 = .ok (.iconst 0, 1) := by decide +kernel
theorem dL_areMembers_3 : decode cL_areMembers 3 = .ok (.istore_n 3, 1) := by decide +kernel
theorem dL_areMembers_4 : decode cL_areMembers 4 = .ok (.iconst 1, 1) := by decide +kernel
theorem dL_areMembers_5 : decode cL_areMembers 5 = .ok (.istore 4, 2) := by decide +kernel
theorem dL_areMembers_7 : decode cL_areMembers 7 = .ok (.iconst 0, 1) := by decide +kernel
theorem dL_areMembers_8 : decode cL_areMembers 8 = .ok (.istore 5, 2) := by decide +kernel
theorem dL_areMembers_10 : decode cL_areMembers 10 = .ok (.iload 5, 2) := by decide +kernel
theorem dL_areMembers_12 : decode cL_areMembers 12 = .ok (.bipush 8, 2) := by decide +kernel
theorem dL_areMembers_14 : decode cL_areMembers 14 = .ok (.if_icmp .ge 321, 3) := by decide +kernel
theorem dL_areMembers_17 : decode cL_areMembers 17 = .ok (.iload 4, 2) := by decide +kernel
theorem dL_areMembers_19 : decode cL_areMembers 19 = .ok (.ifCond .eq 316, 3) := by decide +kernel
theorem dL_areMembers_22 : decode cL_areMembers 22 = .ok (.iconst 0, 1) := by decide +kernel
theorem dL_areMembers_23 : decode cL_areMembers 23 = .ok (.istore 6, 2) := by decide +kernel
theorem dL_areMembers_25 : decode cL_areMembers 25 = .ok (.iconst 0, 1) := by decide +kernel
theorem dL_areMembers_26 : decode cL_areMembers 26 = .ok (.istore 7, 2) := by decide +kernel
theorem dL_areMembers_28 : decode cL_areMembers 28 = .ok (.iconst 0, 1) := by decide +kernel
theorem dL_areMembers_29 : decode cL_areMembers 29 = .ok (.istore 8, 2) := by decide +kernel
theorem dL_areMembers_31 : decode cL_areMembers 31 = .ok (.iconst 0, 1) := by decide +kernel
theorem dL_areMembers_32 : decode cL_areMembers 32 = .ok (.istore 9, 2) := by decide +kernel
theorem dL_areMembers_34 : decode cL_areMembers 34 = .ok (.iload 9, 2) := by decide +kernel
theorem dL_areMembers_36 : decode cL_areMembers 36 = .ok (.bipush 8, 2) := by decide +kernel
theorem dL_areMembers_38 : decode cL_areMembers 38 = .ok (.if_icmp .ge 153, 3) := by decide +kernel
theorem dL_areMembers_41 : decode cL_areMembers 41 = .ok (.aload_n 1, 1) := by decide +kernel
theorem dL_areMembers_42 : decode cL_areMembers 42 = .ok (.bipush 8, 2) := by decide +kernel
theorem dL_areMembers_44 : decode cL_areMembers 44 = .ok (.iload 9, 2) := by decide +kernel
theorem dL_areMembers_46 : decode cL_areMembers 46 = .ok (.imul, 1) := by decide +kernel
theorem dL_areMembers_47 : decode cL_areMembers 47 = .ok (.iconst 1, 1) := by decide +kernel
theorem dL_areMembers_48 : decode cL_areMembers 48 = .ok (.iadd, 1) := by decide +kernel
theorem dL_areMembers_49 : decode cL_areMembers 49 = .ok (.iaload, 1) := by decide +kernel
theorem dL_areMembers_50 : decode cL_areMembers 50 = .ok (.ifCond .ne 7, 3) := by decide +kernel
theorem dL_areMembers_53 : decode cL_areMembers 53 = .ok (.iconst 1, 1) := by decide +kernel
theorem dL_areMembers_54 : decode cL_areMembers 54 = .ok (.goto 4, 3) := by decide +kernel
theorem dL_areMembers_57 : decode cL_areMembers 57 = .ok (.iconst 0, 1) := by decide +kernel
theorem dL_areMembers_58 : decode cL_areMembers 58 = .ok (.istore 10, 2) := by decide +kernel
theorem dL_areMembers_60 : decode cL_areMembers 60 = .ok (.iload 6, 2) := by decide +kernel
theorem dL_areMembers_62 : decode cL_areMembers 62 = .ok (.iload 10, 2) := by decide +kernel
theorem dL_areMembers_64 : decode cL_areMembers 64 = .ok (.ifCond .eq 24, 3) := by decide +kernel
theorem dL_areMembers_67 : decode cL_areMembers 67 = .ok (.aload_n 0, 1) := by decide +kernel
theorem dL_areMembers_68 : decode cL_areMembers 68 = .ok (.iload 9, 2) := by decide +kernel
theorem dL_areMembers_70 : decode cL_areMembers 70 = .ok (.iload 5, 2) := by decide +kernel
theorem dL_areMembers_72 : decode cL_areMembers 72 = .ok (.invokevirtual 88, 3) := by decide +kernel
theorem dL_areMembers_75 : decode cL_areMembers 75 = .ok (.aload_n 0, 1) := by decide +kernel
theorem dL_areMembers_76 : decode cL_areMembers 76 = .ok (.iload 5, 2) := by decide +kernel
theorem dL_areMembers_78 : decode cL_areMembers 78 = .ok (.invokevirtual 64, 3) := by decide +kernel
theorem dL_areMembers_81 : decode cL_areMembers 81 = .ok (.if_icmp .ne 7, 3) := by decide +kernel
theorem dL_areMembers_84 : decode cL_areMembers 84 = .ok (.iconst 1, 1) := by decide +kernel
theorem dL_areMembers_85 : decode cL_areMembers 85 = .ok (.goto 4, 3) := by decide +kernel
theorem dL_areMembers_88 : decode cL_areMembers 88 = .ok (.iconst 0, 1) := by decide +kernel
theorem dL_areMembers_89 : decode cL_areMembers 89 = .ok (.iadd, 1) := by decide +kernel
theorem dL_areMembers_90 : decode cL_areMembers 90 = .ok (.istore 6, 2) := by decide +kernel
theorem dL_areMembers_92 : decode cL_areMembers 92 = .ok (.aload_n 0, 1) := by decide +kernel
theorem dL_areMembers_93 : decode cL_areMembers 93 = .ok (.iload 9, 2) := by decide +kernel
theorem dL_areMembers_95 : decode cL_areMembers 95 = .ok (.iload 5, 2) := by decide +kernel
theorem dL_areMembers_97 : decode cL_areMembers 97 = .ok (.invokevirtual 91, 3) := by decide +kernel
theorem dL_areMembers_100 : decode cL_areMembers 100 = .ok (.aload_n 0, 1) := by decide +kernel
theorem dL_areMembers_101 : decode cL_areMembers 101 = .ok (.iload 7, 2) := by decide +kernel
theorem dL_areMembers_103 : decode cL_areMembers 103 = .ok (.iload 5, 2) := by decide +kernel
theorem dL_areMembers_105 : decode cL_areMembers 105 = .ok (.invokevirtual 91, 3) := by decide +kernel
theorem dL_areMembers_108 : decode cL_areMembers 108 = .ok (.if_icmp .le 8, 3) := by decide +kernel
theorem dL_areMembers_111 : decode cL_areMembers 111 = .ok (.iload 9, 2) := by decide +kernel
theorem dL_areMembers_113 : decode cL_areMembers 113 = .ok (.goto 5, 3) := by decide +kernel
theorem dL_areMembers_116 : decode cL_areMembers 116 = .ok (.iload 7, 2) := by decide +kernel
theorem dL_areMembers_118 : decode cL_areMembers 118 = .ok (.istore 7, 2) := by decide +kernel
theorem dL_areMembers_120 : decode cL_areMembers 120 = .ok (.iload 8, 2) := by decide +kernel
theorem dL_areMembers_122 : decode cL_areMembers 122 = .ok (.ifCond .ne 19, 3) := by decide +kernel
theorem dL_areMembers_125 : decode cL_areMembers 125 = .ok (.iload 10, 2) := by decide +kernel
theorem dL_areMembers_127 : decode cL_areMembers 127 = .ok (.ifCond .eq 18, 3) := by decide +kernel
theorem dL_areMembers_130 : decode cL_areMembers 130 = .ok (.aload_n 0, 1) := by decide +kernel
theorem dL_areMembers_131 : decode cL_areMembers 131 = .ok (.iload 9, 2) := by decide +kernel
theorem dL_areMembers_133 : decode cL_areMembers 133 = .ok (.iload 5, 2) := by decide +kernel
theorem dL_areMembers_135 : decode cL_areMembers 135 = .ok (.invokevirtual 100, 3) := by decide +kernel
theorem dL_areMembers_138 : decode cL_areMembers 138 = .ok (.ifCond .ne 7, 3) := by decide +kernel
theorem dL_areMembers_141 : decode cL_areMembers 141 = .ok (.iconst 1, 1) := by decide +kernel
theorem dL_areMembers_142 : decode cL_areMembers 142 = .ok (.goto 4, 3) := by decide +kernel
theorem dL_areMembers_145 : decode cL_areMembers 145 = .ok (.iconst 0, 1) := by decide +kernel
theorem dL_areMembers_146 : decode cL_areMembers 146 = .ok (.istore 8, 2) := by decide +kernel
theorem dL_areMembers_148 : decode cL_areMembers 148 = .ok (.iload_n 3, 1) := by decide +kernel
theorem dL_areMembers_149 : decode cL_areMembers 149 = .ok (.iload 10, 2) := by decide +kernel
theorem dL_areMembers_151 : decode cL_areMembers 151 = .ok (.ifCond .eq 31, 3) := by decide +kernel
theorem dL_areMembers_154 : decode cL_areMembers 154 = .ok (.aload_n 1, 1) := by decide +kernel
theorem dL_areMembers_155 : decode cL_areMembers 155 = .ok (.bipush 8, 2) := by decide +kernel
theorem dL_areMembers_157 : decode cL_areMembers 157 = .ok (.iload 5, 2) := by decide +kernel
theorem dL_areMembers_159 : decode cL_areMembers 159 = .ok (.imul, 1) := by decide +kernel
theorem dL_areMembers_160 : decode cL_areMembers 160 = .ok (.iconst 1, 1) := by decide +kernel
theorem dL_areMembers_161 : decode cL_areMembers 161 = .ok (.iadd, 1) := by decide +kernel
theorem dL_areMembers_162 : decode cL_areMembers 162 = .ok (.iaload, 1) := by decide +kernel
theorem dL_areMembers_163 : decode cL_areMembers 163 = .ok (.ifCond .ne 19, 3) := by decide +kernel
theorem dL_areMembers_166 : decode cL_areMembers 166 = .ok (.aload_n 0, 1) := by decide +kernel
theorem dL_areMembers_167 : decode cL_areMembers 167 = .ok (.iload 9, 2) := by decide +kernel
theorem dL_areMembers_169 : decode cL_areMembers 169 = .ok (.iload 5, 2) := by decide +kernel
theorem dL_areMembers_171 : decode cL_areMembers 171 = .ok (.invokevirtual 100, 3) := by decide +kernel
theorem dL_areMembers_174 : decode cL_areMembers 174 = .ok (.iconst 2, 1) := by decide +kernel
theorem dL_areMembers_175 : decode cL_areMembers 175 = .ok (.if_icmp .ne 7, 3) := by decide +kernel
theorem dL_areMembers_178 : decode cL_areMembers 178 = .ok (.iconst 1, 1) := by decide +kernel
theorem dL_areMembers_179 : decode cL_areMembers 179 = .ok (.goto 4, 3) := by decide +kernel
theorem dL_areMembers_182 : decode cL_areMembers 182 = .ok (.iconst 0, 1) := by decide +kernel
theorem dL_areMembers_183 : decode cL_areMembers 183 = .ok (.iadd, 1) := by decide +kernel
theorem dL_areMembers_184 : decode cL_areMembers 184 = .ok (.istore_n 3, 1) := by decide +kernel
theorem dL_areMembers_185 : decode cL_areMembers 185 = .ok (.iinc 9 1, 3) := by decide +kernel
theorem dL_areMembers_188 : decode cL_areMembers 188 = .ok (.goto (-154), 3) := by decide +kernel
theorem dL_areMembers_191 : decode cL_areMembers 191 = .ok (.iload_n 2, 1) := by decide +kernel
theorem dL_areMembers_192 : decode cL_areMembers 192 = .ok (.iload 8, 2) := by decide +kernel
theorem dL_areMembers_194 : decode cL_areMembers 194 = .ok (.ifCond .eq 20, 3) := by decide +kernel
theorem dL_areMembers_197 : decode cL_areMembers 197 = .ok (.aload_n 1, 1) := by decide +kernel
theorem dL_areMembers_198 : decode cL_areMembers 198 = .ok (.bipush 8, 2) := by decide +kernel
theorem dL_areMembers_200 : decode cL_areMembers 200 = .ok (.iload 5, 2) := by decide +kernel
theorem dL_areMembers_202 : decode cL_areMembers 202 = .ok (.imul, 1) := by decide +kernel
theorem dL_areMembers_203 : decode cL_areMembers 203 = .ok (.iconst 1, 1) := by decide +kernel
theorem dL_areMembers_204 : decode cL_areMembers 204 = .ok (.iadd, 1) := by decide +kernel
theorem dL_areMembers_205 : decode cL_areMembers 205 = .ok (.iaload, 1) := by decide +kernel
theorem dL_areMembers_206 : decode cL_areMembers 206 = .ok (.iconst 1, 1) := by decide +kernel
theorem dL_areMembers_207 : decode cL_areMembers 207 = .ok (.if_icmp .ne 7, 3) := by decide +kernel
theorem dL_areMembers_210 : decode cL_areMembers 210 = .ok (.iconst 1, 1) := by decide +kernel
