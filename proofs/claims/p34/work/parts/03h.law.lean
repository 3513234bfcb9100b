theorem dL_areMembers_211 : decode cL_areMembers 211 = .ok (.goto 4, 3) := by decide +kernel
theorem dL_areMembers_214 : decode cL_areMembers 214 = .ok (.iconst 0, 1) := by decide +kernel
theorem dL_areMembers_215 : decode cL_areMembers 215 = .ok (.iadd, 1) := by decide +kernel
theorem dL_areMembers_216 : decode cL_areMembers 216 = .ok (.istore_n 2, 1) := by decide +kernel
theorem dL_areMembers_217 : decode cL_areMembers 217 = .ok (.aload_n 0, 1) := by decide +kernel
theorem dL_areMembers_218 : decode cL_areMembers 218 = .ok (.iload 5, 2) := by decide +kernel
theorem dL_areMembers_220 : decode cL_areMembers 220 = .ok (.invokevirtual 79, 3) := by decide +kernel
theorem dL_areMembers_223 : decode cL_areMembers 223 = .ok (.istore 9, 2) := by decide +kernel
theorem dL_areMembers_225 : decode cL_areMembers 225 = .ok (.aload_n 0, 1) := by decide +kernel
theorem dL_areMembers_226 : decode cL_areMembers 226 = .ok (.iload 5, 2) := by decide +kernel
theorem dL_areMembers_228 : decode cL_areMembers 228 = .ok (.invokevirtual 85, 3) := by decide +kernel
theorem dL_areMembers_231 : decode cL_areMembers 231 = .ok (.iload 6, 2) := by decide +kernel
theorem dL_areMembers_233 : decode cL_areMembers 233 = .ok (.if_icmp .ne 93, 3) := by decide +kernel
theorem dL_areMembers_236 : decode cL_areMembers 236 = .ok (.aload_n 0, 1) := by decide +kernel
theorem dL_areMembers_237 : decode cL_areMembers 237 = .ok (.iload 5, 2) := by decide +kernel
theorem dL_areMembers_239 : decode cL_areMembers 239 = .ok (.invokevirtual 82, 3) := by decide +kernel
theorem dL_areMembers_242 : decode cL_areMembers 242 = .ok (.aload_n 0, 1) := by decide +kernel
theorem dL_areMembers_243 : decode cL_areMembers 243 = .ok (.iload 7, 2) := by decide +kernel
theorem dL_areMembers_245 : decode cL_areMembers 245 = .ok (.iload 5, 2) := by decide +kernel
theorem dL_areMembers_247 : decode cL_areMembers 247 = .ok (.invokevirtual 91, 3) := by decide +kernel
theorem dL_areMembers_250 : decode cL_areMembers 250 = .ok (.ifCond .le 8, 3) := by decide +kernel
theorem dL_areMembers_253 : decode cL_areMembers 253 = .ok (.iload 7, 2) := by decide +kernel
theorem dL_areMembers_255 : decode cL_areMembers 255 = .ok (.goto 4, 3) := by decide +kernel
theorem dL_areMembers_258 : decode cL_areMembers 258 = .ok (.iconst (-1), 1) := by decide +kernel
theorem dL_areMembers_259 : decode cL_areMembers 259 = .ok (.if_icmp .ne 67, 3) := by decide +kernel
theorem dL_areMembers_262 : decode cL_areMembers 262 = .ok (.iload 9, 2) := by decide +kernel
theorem dL_areMembers_264 : decode cL_areMembers 264 = .ok (.iconst (-1), 1) := by decide +kernel
theorem dL_areMembers_265 : decode cL_areMembers 265 = .ok (.if_icmp .lt 61, 3) := by decide +kernel
theorem dL_areMembers_268 : decode cL_areMembers 268 = .ok (.iload 9, 2) := by decide +kernel
theorem dL_areMembers_270 : decode cL_areMembers 270 = .ok (.bipush 8, 2) := by decide +kernel
theorem dL_areMembers_272 : decode cL_areMembers 272 = .ok (.if_icmp .ge 54, 3) := by decide +kernel
theorem dL_areMembers_275 : decode cL_areMembers 275 = .ok (.iload 9, 2) := by decide +kernel
theorem dL_areMembers_277 : decode cL_areMembers 277 = .ok (.iload 5, 2) := by decide +kernel
theorem dL_areMembers_279 : decode cL_areMembers 279 = .ok (.if_icmp .eq 47, 3) := by decide +kernel
theorem dL_areMembers_282 : decode cL_areMembers 282 = .ok (.iload 9, 2) := by decide +kernel
theorem dL_areMembers_284 : decode cL_areMembers 284 = .ok (.ifCond .lt 38, 3) := by decide +kernel
theorem dL_areMembers_287 : decode cL_areMembers 287 = .ok (.aload_n 1, 1) := by decide +kernel
theorem dL_areMembers_288 : decode cL_areMembers 288 = .ok (.bipush 8, 2) := by decide +kernel
theorem dL_areMembers_290 : decode cL_areMembers 290 = .ok (.iload 5, 2) := by decide +kernel
theorem dL_areMembers_292 : decode cL_areMembers 292 = .ok (.imul, 1) := by decide +kernel
theorem dL_areMembers_293 : decode cL_areMembers 293 = .ok (.iconst 1, 1) := by decide +kernel
theorem dL_areMembers_294 : decode cL_areMembers 294 = .ok (.iadd, 1) := by decide +kernel
theorem dL_areMembers_295 : decode cL_areMembers 295 = .ok (.iaload, 1) := by decide +kernel
theorem dL_areMembers_296 : decode cL_areMembers 296 = .ok (.ifCond .ne 30, 3) := by decide +kernel
theorem dL_areMembers_299 : decode cL_areMembers 299 = .ok (.aload_n 0, 1) := by decide +kernel
theorem dL_areMembers_300 : decode cL_areMembers 300 = .ok (.invokevirtual 103, 3) := by decide +kernel
theorem dL_areMembers_303 : decode cL_areMembers 303 = .ok (.iconst 1, 1) := by decide +kernel
theorem dL_areMembers_304 : decode cL_areMembers 304 = .ok (.iadd, 1) := by decide +kernel
theorem dL_areMembers_305 : decode cL_areMembers 305 = .ok (.iconst 4, 1) := by decide +kernel
theorem dL_areMembers_306 : decode cL_areMembers 306 = .ok (.irem, 1) := by decide +kernel
theorem dL_areMembers_307 : decode cL_areMembers 307 = .ok (.ifCond .eq 15, 3) := by decide +kernel
theorem dL_areMembers_310 : decode cL_areMembers 310 = .ok (.aload_n 0, 1) := by decide +kernel
theorem dL_areMembers_311 : decode cL_areMembers 311 = .ok (.iload 5, 2) := by decide +kernel
theorem dL_areMembers_313 : decode cL_areMembers 313 = .ok (.iload 9, 2) := by decide +kernel
theorem dL_areMembers_315 : decode cL_areMembers 315 = .ok (.invokevirtual 100, 3) := by decide +kernel
theorem dL_areMembers_318 : decode cL_areMembers 318 = .ok (.iconst 2, 1) := by decide +kernel
theorem dL_areMembers_319 : decode cL_areMembers 319 = .ok (.if_icmp .ge 7, 3) := by decide +kernel
theorem dL_areMembers_322 : decode cL_areMembers 322 = .ok (.iconst 1, 1) := by decide +kernel
theorem dL_areMembers_323 : decode cL_areMembers 323 = .ok (.goto 4, 3) := by decide +kernel
theorem dL_areMembers_326 : decode cL_areMembers 326 = .ok (.iconst 0, 1) := by decide +kernel
theorem dL_areMembers_327 : decode cL_areMembers 327 = .ok (.istore 4, 2) := by decide +kernel
theorem dL_areMembers_329 : decode cL_areMembers 329 = .ok (.iinc 5 1, 3) := by decide +kernel
theorem dL_areMembers_332 : decode cL_areMembers 332 = .ok (.goto (-322), 3) := by decide +kernel
theorem dL_areMembers_335 : decode cL_areMembers 335 = .ok (.iload 4, 2) := by decide +kernel
theorem dL_areMembers_337 : decode cL_areMembers 337 = .ok (.ifCond .eq 23, 3) := by decide +kernel
theorem dL_areMembers_340 : decode cL_areMembers 340 = .ok (.aload_n 0, 1) := by decide +kernel
theorem dL_areMembers_341 : decode cL_areMembers 341 = .ok (.invokevirtual 114, 3) := by decide +kernel
theorem dL_areMembers_344 : decode cL_areMembers 344 = .ok (.iload_n 2, 1) := by decide +kernel
theorem dL_areMembers_345 : decode cL_areMembers 345 = .ok (.if_icmp .ne 15, 3) := by decide +kernel
theorem dL_areMembers_348 : decode cL_areMembers 348 = .ok (.aload_n 0, 1) := by decide +kernel
theorem dL_areMembers_349 : decode cL_areMembers 349 = .ok (.invokevirtual 119, 3) := by decide +kernel
theorem dL_areMembers_352 : decode cL_areMembers 352 = .ok (.iload_n 3, 1) := by decide +kernel
theorem dL_areMembers_353 : decode cL_areMembers 353 = .ok (.if_icmp .ne 7, 3) := by decide +kernel
theorem dL_areMembers_356 : decode cL_areMembers 356 = .ok (.iconst 1, 1) := by decide +kernel
theorem dL_areMembers_357 : decode cL_areMembers 357 = .ok (.goto 4, 3) := by decide +kernel
theorem dL_areMembers_360 : decode cL_areMembers 360 = .ok (.iconst 0, 1) := by decide +kernel
theorem dL_areMembers_361 : decode cL_areMembers 361 = .ok (.ireturn, 1) := by decide +kernel
set_option maxRecDepth 20000 in
theorem ggL_isTicked_L_keeps : GoodIn wsL_isTicked wsL_keeps := goodIn_ca (goodIn_r _ [4, 5, 6, 7, 8, 9, 10, 11, 12, 13, 14, 15, 16, 17, 18, 19, 20, 21, 22, 23, 24, 25, 26, 27, 28, 29, 30, 31, 32, 33, 34, 35, 36, 37, 38, 39, 40, 41, 285, 286, 287, 288, 289, 290, 291, 292, 293, 294, 295, 296, 297, 298, 299, 300, 301, 302, 303, 304, 305, 306, 307, 308, 309, 310, 311, 312, 313, 314, 315, 316] (by decide +kernel) (by decide +kernel)) (goodIn_sub (fun _ h => List.mem_cons_of_mem _ (List.mem_append_left _ (List.mem_append_right _ h))) (by decide +kernel))
set_option maxRecDepth 20000 in
theorem gL_isTicked_L_keeps : GoodIn wsL_isTicked (va_wsS RL 132 yL_keeps wsL_keeps) := goodIn_app (goodIn_of _ (by decide +kernel)) ggL_isTicked_L_keeps
set_option maxRecDepth 20000 in
theorem ggL_isTicked_X3_time : GoodIn wsL_isTicked wsX3_time := goodIn_r _ [45, 46, 285, 286, 287, 288] (by decide +kernel) (by decide +kernel)
set_option maxRecDepth 20000 in
theorem gL_isTicked_X3_time : GoodIn wsL_isTicked (wsV RL 103 RX3 yX3_time wsX3_time) := goodIn_app (goodIn_of _ (by decide +kernel)) ggL_isTicked_X3_time
set_option maxRecDepth 20000 in
theorem ggL_isTicked_X3_vain : GoodIn wsL_isTicked wsX3_vain := goodIn_r _ [50, 40, 51, 285, 286, 287, 288, 305, 306, 307, 308, 309, 310, 311, 312, 313, 314, 315, 316] (by decide +kernel) (by decide +kernel)
set_option maxRecDepth 20000 in
theorem gL_isTicked_X3_vain : GoodIn wsL_isTicked (wsV RL 109 RX3 yX3_vain wsX3_vain) := goodIn_app (goodIn_of _ (by decide +kernel)) ggL_isTicked_X3_vain
set_option maxRecDepth 20000 in
theorem ggL_isTicked_L_act : GoodIn wsL_isTicked wsL_act := goodIn_ca (goodIn_ca (goodIn_r _ [54, 55, 56, 57, 58, 59, 8, 60, 34, 61, 12, 13, 14, 15, 16, 17, 18, 19, 62, 63, 64, 65, 10, 66, 67, 68, 69, 70, 71, 72, 73, 74, 75, 76, 77, 78, 35, 79, 80, 81, 82, 40, 83, 84, 85, 86, 87, 88, 89, 90, 91, 92, 46, 93, 94, 95, 96, 97, 98, 99, 100, 101, 102, 103, 104, 105, 106, 107, 108, 109, 110, 111, 112, 113, 114, 115, 116, 117, 118, 119, 120, 121, 122, 123, 124, 125, 126, 127, 128, 129, 130, 131, 132, 133, 134, 135, 136, 137, 138, 139, 140, 141, 142, 143, 144, 145, 146, 147, 148, 149, 150, 151, 152, 153, 154, 155, 156, 157, 158, 159, 160, 161, 162, 163, 164, 165, 166, 167, 168, 169, 170, 171, 172, 173, 174, 175, 176, 177, 178, 179, 180, 181, 182, 183, 184, 185, 186, 187, 188, 189, 190, 191, 192, 193, 194, 195, 196, 197, 198, 199, 200, 201, 202, 203, 204, 205, 206, 207, 208, 209, 210, 211, 212, 213, 214, 215, 216, 217, 218, 219, 220, 221, 222, 223, 224, 225, 226, 227, 228, 229, 230, 231, 232, 233, 234, 235, 236, 237, 285, 286, 287, 288, 297, 298, 299, 300, 301, 302, 303, 304, 289, 290, 291, 292, 293, 294, 295, 296, 305, 306, 307, 308, 309, 310, 311, 312, 313, 314, 315, 316] (by decide +kernel) (by decide +kernel)) (goodIn_sub (fun _ h => List.mem_cons_of_mem _ (List.mem_append_left _ (List.mem_append_right _ h))) (by decide +kernel))) (goodIn_sub (fun _ h => List.mem_cons_of_mem _ (List.mem_append_right _ h)) (by decide +kernel))
set_option maxRecDepth 20000 in
theorem gL_isTicked_L_act : GoodIn wsL_isTicked (va_wsS RL 138 yL_act wsL_act) := goodIn_app (goodIn_of _ (by decide +kernel)) ggL_isTicked_L_act
set_option maxRecDepth 20000 in
theorem ggL_isTicked_L_isWater : GoodIn wsL_isTicked wsL_isWater := goodIn_ca (goodIn_r _ [240, 20, 21, 22, 8, 23, 10, 24, 12, 13, 14, 15, 16, 17, 18, 19, 25, 26, 27, 28, 29, 5, 6, 7, 9, 11, 241, 242, 243, 244, 245, 246, 247, 100, 248, 109, 118, 139, 249, 250, 251, 252, 253, 147, 148, 149, 134, 108, 285, 286, 287, 288, 289, 290, 291, 292, 293, 294, 295, 296] (by decide +kernel) (by decide +kernel)) (goodIn_sub (fun _ h => List.mem_cons_of_mem _ (List.mem_append_left _ (List.mem_append_right _ h))) (by decide +kernel))
set_option maxRecDepth 20000 in
theorem gL_isTicked_L_isWater : GoodIn wsL_isTicked (va_wsS RL 142 yL_isWater wsL_isWater) := goodIn_app (goodIn_of _ (by decide +kernel)) ggL_isTicked_L_isWater
set_option maxRecDepth 20000 in
theorem ggL_isTicked_L_areBeats : GoodIn wsL_isTicked wsL_areBeats := goodIn_ca (goodIn_r _ [256, 42, 43, 44, 8, 45, 46, 36, 37, 38, 39, 40, 41, 12, 13, 14, 15, 16, 17, 18, 19, 257, 258, 259, 260, 261, 262, 263, 264, 265, 266, 267, 268, 269, 270, 215, 271, 222, 223, 143, 224, 157, 272, 273, 274, 275, 276, 285, 286, 287, 288, 305, 306, 307, 308, 309, 310, 311, 312, 313, 314, 315, 316] (by decide +kernel) (by decide +kernel)) (goodIn_sub (fun _ h => List.mem_cons_of_mem _ (List.mem_append_left _ (List.mem_append_right _ h))) (by decide +kernel))
set_option maxRecDepth 20000 in
theorem gL_isTicked_L_areBeats : GoodIn wsL_isTicked (va_wsS RL 146 yL_areBeats wsL_areBeats) := goodIn_app (goodIn_of _ (by decide +kernel)) ggL_isTicked_L_areBeats
set_option maxRecDepth 20000 in
theorem ggL_isTicked_L_areGates : GoodIn wsL_isTicked wsL_areGates := goodIn_ca (goodIn_r _ [279, 267, 268, 269, 8, 270, 40, 215, 12, 13, 14, 15, 16, 17, 18, 19, 271, 222, 223, 143, 224, 157, 272, 273, 274, 275, 46, 276, 30, 31, 32, 33, 34, 35, 280, 281, 282, 283, 284, 285, 286, 287, 288, 305, 306, 307, 308, 309, 310, 311, 312, 313, 314, 315, 316, 297, 298, 299, 300, 301, 302, 303, 304] (by decide +kernel) (by decide +kernel)) (goodIn_sub (fun _ h => List.mem_cons_of_mem _ (List.mem_append_left _ (List.mem_append_right _ h))) (by decide +kernel))
set_option maxRecDepth 20000 in
theorem gL_isTicked_L_areGates : GoodIn wsL_isTicked (va_wsS RL 150 yL_areGates wsL_areGates) := goodIn_app (goodIn_of _ (by decide +kernel)) ggL_isTicked_L_areGates
theorem dL_isTicked_0 : decode cL_isTicked 0 = .ok (.aload_n 0, 1) := by decide +kernel
theorem dL_isTicked_1 : decode cL_isTicked 1 = .ok (.aload_n 2, 1) := by decide +kernel
theorem dL_isTicked_2 : decode cL_isTicked 2 = .ok (.aload_n 3, 1) := by decide +kernel
theorem dL_isTicked_3 : decode cL_isTicked 3 = .ok (.invokestatic 132, 3) := by decide +kernel
theorem dL_isTicked_6 : decode cL_isTicked 6 = .ok (.aload_n 0, 1) := by decide +kernel
theorem dL_isTicked_7 : decode cL_isTicked 7 = .ok (.invokevirtual 103, 3) := by decide +kernel
theorem dL_isTicked_10 : decode cL_isTicked 10 = .ok (.istore 7, 2) := by decide +kernel
theorem dL_isTicked_12 : decode cL_isTicked 12 = .ok (.aload_n 0, 1) := by decide +kernel
theorem dL_isTicked_13 : decode cL_isTicked 13 = .ok (.invokevirtual 109, 3) := by decide +kernel
theorem dL_isTicked_16 : decode cL_isTicked 16 = .ok (.istore 8, 2) := by decide +kernel
theorem dL_isTicked_18 : decode cL_isTicked 18 = .ok (.iconst 0, 1) := by decide +kernel
theorem dL_isTicked_19 : decode cL_isTicked 19 = .ok (.istore 9, 2) := by decide +kernel
theorem dL_isTicked_21 : decode cL_isTicked 21 = .ok (.iconst 0, 1) := by decide +kernel
theorem dL_isTicked_22 : decode cL_isTicked 22 = .ok (.istore 10, 2) := by decide +kernel
theorem dL_isTicked_24 : decode cL_isTicked 24 = .ok (.iload 10, 2) := by decide +kernel
theorem dL_isTicked_26 : decode cL_isTicked 26 = .ok (.bipush 8, 2) := by decide +kernel
theorem dL_isTicked_28 : decode cL_isTicked 28 = .ok (.if_icmp .ge 31, 3) := by decide +kernel
theorem dL_isTicked_31 : decode cL_isTicked 31 = .ok (.iload 9, 2) := by decide +kernel
theorem dL_isTicked_33 : decode cL_isTicked 33 = .ok (.aload_n 2, 1) := by decide +kernel
theorem dL_isTicked_34 : decode cL_isTicked 34 = .ok (.bipush 8, 2) := by decide +kernel
theorem dL_isTicked_36 : decode cL_isTicked 36 = .ok (.iload 10, 2) := by decide +kernel
theorem dL_isTicked_38 : decode cL_isTicked 38 = .ok (.imul, 1) := by decide +kernel
theorem dL_isTicked_39 : decode cL_isTicked 39 = .ok (.iconst 1, 1) := by decide +kernel
theorem dL_isTicked_40 : decode cL_isTicked 40 = .ok (.iadd, 1) := by decide +kernel
theorem dL_isTicked_41 : decode cL_isTicked 41 = .ok (.iaload, 1) := by decide +kernel
theorem dL_isTicked_42 : decode cL_isTicked 42 = .ok (.ifCond .ne 7, 3) := by decide +kernel
theorem dL_isTicked_45 : decode cL_isTicked 45 = .ok (.iconst 1, 1) := by decide +kernel
theorem dL_isTicked_46 : decode cL_isTicked 46 = .ok (.goto 4, 3) := by decide +kernel
theorem dL_isTicked_49 : decode cL_isTicked 49 = .ok (.iconst 0, 1) := by decide +kernel
theorem dL_isTicked_50 : decode cL_isTicked 50 = .ok (.iadd, 1) := by decide +kernel
theorem dL_isTicked_51 : decode cL_isTicked 51 = .ok (.istore 9, 2) := by decide +kernel
theorem dL_isTicked_53 : decode cL_isTicked 53 = .ok (.iinc 10 1, 3) := by decide +kernel
theorem dL_isTicked_56 : decode cL_isTicked 56 = .ok (.goto (-32), 3) := by decide +kernel
theorem dL_isTicked_59 : decode cL_isTicked 59 = .ok (.aload_n 0, 1) := by decide +kernel
theorem dL_isTicked_60 : decode cL_isTicked 60 = .ok (.bipush 6, 2) := by decide +kernel
theorem dL_isTicked_62 : decode cL_isTicked 62 = .ok (.iconst 1, 1) := by decide +kernel
theorem dL_isTicked_63 : decode cL_isTicked 63 = .ok (.iconst 0, 1) := by decide +kernel
theorem dL_isTicked_64 : decode cL_isTicked 64 = .ok (.invokestatic 138, 3) := by decide +kernel
theorem dL_isTicked_67 : decode cL_isTicked 67 = .ok (.istore 10, 2) := by decide +kernel
theorem dL_isTicked_69 : decode cL_isTicked 69 = .ok (.iload 10, 2) := by decide +kernel
theorem dL_isTicked_71 : decode cL_isTicked 71 = .ok (.ifCond .lt 76, 3) := by decide +kernel
theorem dL_isTicked_74 : decode cL_isTicked 74 = .ok (.aload_n 0, 1) := by decide +kernel
theorem dL_isTicked_75 : decode cL_isTicked 75 = .ok (.invokevirtual 103, 3) := by decide +kernel
theorem dL_isTicked_78 : decode cL_isTicked 78 = .ok (.iload 7, 2) := by decide +kernel
theorem dL_isTicked_80 : decode cL_isTicked 80 = .ok (.iconst 1, 1) := by decide +kernel
theorem dL_isTicked_81 : decode cL_isTicked 81 = .ok (.iadd, 1) := by decide +kernel
theorem dL_isTicked_82 : decode cL_isTicked 82 = .ok (.if_icmp .ne 65, 3) := by decide +kernel
theorem dL_isTicked_85 : decode cL_isTicked 85 = .ok (.aload_n 0, 1) := by decide +kernel
theorem dL_isTicked_86 : decode cL_isTicked 86 = .ok (.invokevirtual 109, 3) := by decide +kernel
theorem dL_isTicked_89 : decode cL_isTicked 89 = .ok (.iload 8, 2) := by decide +kernel
theorem dL_isTicked_91 : decode cL_isTicked 91 = .ok (.if_icmp .lt 56, 3) := by decide +kernel
theorem dL_isTicked_94 : decode cL_isTicked 94 = .ok (.aload_n 0, 1) := by decide +kernel
theorem dL_isTicked_95 : decode cL_isTicked 95 = .ok (.invokevirtual 109, 3) := by decide +kernel
theorem dL_isTicked_98 : decode cL_isTicked 98 = .ok (.iload 8, 2) := by decide +kernel
theorem dL_isTicked_100 : decode cL_isTicked 100 = .ok (.iload 9, 2) := by decide +kernel
theorem dL_isTicked_102 : decode cL_isTicked 102 = .ok (.iadd, 1) := by decide +kernel
theorem dL_isTicked_103 : decode cL_isTicked 103 = .ok (.if_icmp .gt 44, 3) := by decide +kernel
theorem dL_isTicked_106 : decode cL_isTicked 106 = .ok (.aload_n 0, 1) := by decide +kernel
theorem dL_isTicked_107 : decode cL_isTicked 107 = .ok (.aload_n 1, 1) := by decide +kernel
theorem dL_isTicked_108 : decode cL_isTicked 108 = .ok (.aload_n 2, 1) := by decide +kernel
theorem dL_isTicked_109 : decode cL_isTicked 109 = .ok (.aload 6, 2) := by decide +kernel
theorem dL_isTicked_111 : decode cL_isTicked 111 = .ok (.iload 10, 2) := by decide +kernel
theorem dL_isTicked_113 : decode cL_isTicked 113 = .ok (.invokestatic 142, 3) := by decide +kernel
theorem dL_isTicked_116 : decode cL_isTicked 116 = .ok (.ifCond .eq 31, 3) := by decide +kernel
theorem dL_isTicked_119 : decode cL_isTicked 119 = .ok (.aload_n 0, 1) := by decide +kernel
theorem dL_isTicked_120 : decode cL_isTicked 120 = .ok (.aload_n 2, 1) := by decide +kernel
theorem dL_isTicked_121 : decode cL_isTicked 121 = .ok (.aload_n 3, 1) := by decide +kernel
theorem dL_isTicked_122 : decode cL_isTicked 122 = .ok (.aload 4, 2) := by decide +kernel
theorem dL_isTicked_124 : decode cL_isTicked 124 = .ok (.aload 6, 2) := by decide +kernel
theorem dL_isTicked_126 : decode cL_isTicked 126 = .ok (.invokestatic 146, 3) := by decide +kernel
theorem dL_isTicked_129 : decode cL_isTicked 129 = .ok (.ifCond .eq 18, 3) := by decide +kernel
theorem dL_isTicked_132 : decode cL_isTicked 132 = .ok (.aload_n 0, 1) := by decide +kernel
theorem dL_isTicked_133 : decode cL_isTicked 133 = .ok (.aload_n 1, 1) := by decide +kernel
theorem dL_isTicked_134 : decode cL_isTicked 134 = .ok (.aload_n 2, 1) := by decide +kernel
theorem dL_isTicked_135 : decode cL_isTicked 135 = .ok (.aload 5, 2) := by decide +kernel
theorem dL_isTicked_137 : decode cL_isTicked 137 = .ok (.invokestatic 150, 3) := by decide +kernel
theorem dL_isTicked_140 : decode cL_isTicked 140 = .ok (.ifCond .eq 7, 3) := by decide +kernel
theorem dL_isTicked_143 : decode cL_isTicked 143 = .ok (.iconst 1, 1) := by decide +kernel
theorem dL_isTicked_144 : decode cL_isTicked 144 = .ok (.goto 4, 3) := by decide +kernel
theorem dL_isTicked_147 : decode cL_isTicked 147 = .ok (.iconst 0, 1) := by decide +kernel
theorem dL_isTicked_148 : decode cL_isTicked 148 = .ok (.ireturn, 1) := by decide +kernel
set_option maxRecDepth 20000 in
theorem ggL_isRefused_L_all : GoodIn wsL_isRefused wsL_all := goodIn_ca (goodIn_r _ [4, 5, 6, 7, 8, 9, 10, 11, 12, 13, 14, 15, 16, 17, 18, 19, 20, 21, 22, 23, 24, 25, 26, 27, 28, 29, 30, 31, 32, 33, 34, 35, 36, 37, 38, 39, 40, 41, 42, 43, 44, 45, 46, 47, 48, 49, 50, 51, 52, 53, 54, 55, 56, 57, 58, 59, 60, 61, 62, 63, 64, 65, 66, 67, 68, 69, 70, 71, 72, 73, 74, 75, 76, 77, 78, 79, 80, 81, 82, 83, 84, 85, 86, 87, 88, 89, 90, 91, 92, 93, 94, 95, 96, 97, 98, 99, 100, 101, 102, 103, 104, 105, 106, 107, 108, 109, 110, 111, 112, 113, 114, 115, 116, 117, 118, 119, 120, 121, 122, 123, 124, 125, 126, 127, 374, 375, 376, 377, 378, 379, 380, 381, 382, 383, 384, 385, 386, 387, 388, 389, 390, 391, 392, 393, 394, 395, 396, 397, 398, 399, 400, 401, 402, 403, 404, 405] (by decide +kernel) (by decide +kernel)) (goodIn_sub (fun _ h => List.mem_cons_of_mem _ (List.mem_append_left _ (List.mem_append_right _ h))) (by decide +kernel))
set_option maxRecDepth 20000 in
theorem gL_isRefused_L_all : GoodIn wsL_isRefused (va_wsS RL 154 yL_all wsL_all) := goodIn_app (goodIn_of _ (by decide +kernel)) ggL_isRefused_L_all
set_option maxRecDepth 20000 in
theorem ggL_isRefused_L_shaped : GoodIn wsL_isRefused wsL_shaped := goodIn_ca (goodIn_r _ [130, 131, 132, 133, 134, 16, 135, 52, 136, 137, 54, 55, 56, 57, 58, 59, 60, 61, 374, 375, 376, 377, 390, 391, 392, 393, 394, 395, 396, 397] (by decide +kernel) (by decide +kernel)) (goodIn_sub (fun _ h => List.mem_cons_of_mem _ (List.mem_append_left _ (List.mem_append_right _ h))) (by decide +kernel))
set_option maxRecDepth 20000 in
theorem gL_isRefused_L_shaped : GoodIn wsL_isRefused (va_wsS RL 158 yL_shaped wsL_shaped) := goodIn_app (goodIn_of _ (by decide +kernel)) ggL_isRefused_L_shaped
set_option maxRecDepth 20000 in
theorem ggL_isRefused_L_act : GoodIn wsL_isRefused wsL_act := goodIn_ca (goodIn_ca (goodIn_r _ [140, 131, 141, 142, 143, 144, 16, 145, 66, 146, 54, 55, 56, 57, 58, 59, 60, 61, 147, 148, 149, 150, 52, 151, 152, 153, 154, 155, 156, 157, 158, 159, 160, 161, 162, 163, 67, 164, 165, 166, 167, 23, 168, 169, 170, 171, 172, 173, 174, 175, 176, 177, 18, 178, 179, 180, 181, 182, 183, 184, 80, 185, 186, 187, 188, 189, 190, 191, 83, 192, 193, 194, 195, 196, 197, 198, 199, 200, 201, 202, 203, 204, 205, 206, 207, 208, 209, 210, 211, 212, 213, 214, 215, 216, 82, 217, 218, 219, 220, 221, 222, 223, 224, 32, 225, 34, 226, 78, 79, 81, 227, 228, 229, 230, 231, 88, 232, 93, 233, 234, 235, 236, 237, 238, 239, 240, 241, 242, 243, 244, 245, 100, 101, 102, 103, 104, 105, 106, 39, 246, 247, 248, 249, 250, 251, 252, 253, 254, 255, 256, 257, 258, 259, 260, 261, 262, 263, 264, 265, 266, 267, 268, 269, 270, 271, 272, 273, 274, 275, 98, 276, 277, 278, 279, 280, 126, 281, 282, 283, 284, 285, 89, 90, 91, 92, 286, 287, 288, 289, 290, 291, 292, 293, 294, 295, 296, 297, 298, 374, 375, 376, 377, 398, 399, 400, 401, 402, 403, 404, 405, 390, 391, 392, 393, 394, 395, 396, 397, 378, 379, 380, 381, 382, 383, 384, 385, 386, 387, 388, 389] (by decide +kernel) (by decide +kernel)) (goodIn_sub (fun _ h => List.mem_cons_of_mem _ (List.mem_append_left _ (List.mem_append_right _ h))) (by decide +kernel))) (goodIn_sub (fun _ h => List.mem_cons_of_mem _ (List.mem_append_right _ h)) (by decide +kernel))
set_option maxRecDepth 20000 in
theorem gL_isRefused_L_act : GoodIn wsL_isRefused (va_wsS RL 138 yL_act wsL_act) := goodIn_app (goodIn_of _ (by decide +kernel)) ggL_isRefused_L_act
set_option maxRecDepth 20000 in
theorem ggL_isRefused_L_ruled : GoodIn wsL_isRefused wsL_ruled := goodIn_ca (goodIn_r _ [301, 131, 302, 303, 304, 16, 305, 66, 306, 307, 281, 280, 54, 55, 56, 57, 58, 59, 60, 61, 374, 375, 376, 377, 398, 399, 400, 401, 402, 403, 404, 405] (by decide +kernel) (by decide +kernel)) (goodIn_sub (fun _ h => List.mem_cons_of_mem _ (List.mem_append_left _ (List.mem_append_right _ h))) (by decide +kernel))
set_option maxRecDepth 20000 in
theorem gL_isRefused_L_ruled : GoodIn wsL_isRefused (va_wsS RL 161 yL_ruled wsL_ruled) := goodIn_app (goodIn_of _ (by decide +kernel)) ggL_isRefused_L_ruled
set_option maxRecDepth 20000 in
theorem ggL_isRefused_L_timed : GoodIn wsL_isRefused wsL_timed := goodIn_ca (goodIn_r _ [310, 131, 311, 312, 313, 16, 314, 23, 315, 316, 57, 58, 59, 60, 61, 374, 375, 376, 377, 378, 379, 380, 381, 382, 383, 384, 385, 386, 387, 388, 389] (by decide +kernel) (by decide +kernel)) (goodIn_sub (fun _ h => List.mem_cons_of_mem _ (List.mem_append_left _ (List.mem_append_right _ h))) (by decide +kernel))
set_option maxRecDepth 20000 in
theorem gL_isRefused_L_timed : GoodIn wsL_isRefused (va_wsS RL 165 yL_timed wsL_timed) := goodIn_app (goodIn_of _ (by decide +kernel)) ggL_isRefused_L_timed
set_option maxRecDepth 20000 in
theorem ggL_isRefused_L_fallen : GoodIn wsL_isRefused wsL_fallen := goodIn_ca (goodIn_ca (goodIn_r _ [319, 131, 141, 320, 321, 322, 16, 323, 161, 162, 23, 98, 54, 55, 56, 57, 58, 59, 60, 61, 374, 375, 376, 377, 378, 379, 380, 381, 382, 383, 384, 385, 386, 387, 388, 389] (by decide +kernel) (by decide +kernel)) (goodIn_sub (fun _ h => List.mem_cons_of_mem _ (List.mem_append_right _ h)) (by decide +kernel))) (goodIn_sub (fun _ h => List.mem_cons_of_mem _ (List.mem_append_left _ (List.mem_append_right _ h))) (by decide +kernel))
set_option maxRecDepth 20000 in
theorem gL_isRefused_L_fallen : GoodIn wsL_isRefused (va_wsS RL 169 yL_fallen wsL_fallen) := goodIn_app (goodIn_of _ (by decide +kernel)) ggL_isRefused_L_fallen
set_option maxRecDepth 20000 in
theorem ggL_isRefused_L_risen : GoodIn wsL_isRefused wsL_risen := goodIn_ca (goodIn_ca (goodIn_r _ [326, 131, 141, 327, 328, 329, 16, 330, 161, 162, 23, 98, 331, 18, 54, 55, 56, 57, 58, 59, 60, 61, 332, 333, 334, 335, 374, 375, 376, 377, 378, 379, 380, 381, 382, 383, 384, 385, 386, 387, 388, 389] (by decide +kernel) (by decide +kernel)) (goodIn_sub (fun _ h => List.mem_cons_of_mem _ (List.mem_append_right _ h)) (by decide +kernel))) (goodIn_sub (fun _ h => List.mem_cons_of_mem _ (List.mem_append_left _ (List.mem_append_right _ h))) (by decide +kernel))
set_option maxRecDepth 20000 in
theorem gL_isRefused_L_risen : GoodIn wsL_isRefused (va_wsS RL 173 yL_risen wsL_risen) := goodIn_app (goodIn_of _ (by decide +kernel)) ggL_isRefused_L_risen
set_option maxRecDepth 20000 in
theorem ggL_isRefused_L_of : GoodIn wsL_isRefused wsL_of := goodIn_ca (goodIn_r _ [338, 131, 48, 49, 50, 16, 51, 52, 53, 54, 55, 56, 57, 58, 59, 60, 61, 339, 340, 341, 342, 343, 344, 345, 80, 346, 192, 201, 221, 347, 348, 349, 350, 77, 78, 79, 81, 82, 83, 351, 352, 353, 354, 355, 356, 357, 358, 359, 360, 62, 63, 64, 65, 66, 67, 68, 69, 70, 71, 72, 94, 95, 96, 97, 23, 98, 18, 99, 100, 101, 32, 102, 103, 104, 105, 106, 39, 361, 362, 363, 364, 365, 366, 367, 368, 93, 73, 74, 75, 76, 84, 85, 86, 87, 34, 88, 89, 90, 91, 92, 122, 123, 124, 125, 126, 127, 107, 108, 109, 110, 111, 369, 370, 371, 372, 373, 112, 113, 114, 115, 116, 117, 118, 119, 120, 121, 374, 375, 376, 377, 390, 391, 392, 393, 394, 395, 396, 397, 398, 399, 400, 401, 402, 403, 404, 405, 378, 379, 380, 381, 382, 383, 384, 385, 386, 387, 388, 389] (by decide +kernel) (by decide +kernel)) (goodIn_sub (fun _ h => List.mem_cons_of_mem _ (List.mem_append_left _ (List.mem_append_right _ h))) (by decide +kernel))
set_option maxRecDepth 20000 in
theorem gL_isRefused_L_of : GoodIn wsL_isRefused (va_wsS RL 176 yL_of wsL_of) := goodIn_app (goodIn_of _ (by decide +kernel)) ggL_isRefused_L_of
theorem dL_isRefused_0 : decode cL_isRefused 0 = .ok (.iload_n 2, 1) := by decide +kernel
theorem dL_isRefused_1 : decode cL_isRefused 1 = .ok (.iconst 2, 1) := by decide +kernel
theorem dL_isRefused_2 : decode cL_isRefused 2 = .ok (.irem, 1) := by decide +kernel
theorem dL_isRefused_3 : decode cL_isRefused 3 = .ok (.ifCond .ne 7, 3) := by decide +kernel
theorem dL_isRefused_6 : decode cL_isRefused 6 = .ok (.iconst 1, 1) := by decide +kernel
theorem dL_isRefused_7 : decode cL_isRefused 7 = .ok (.goto 4, 3) := by decide +kernel
theorem dL_isRefused_10 : decode cL_isRefused 10 = .ok (.iconst 0, 1) := by decide +kernel
theorem dL_isRefused_11 : decode cL_isRefused 11 = .ok (.istore_n 3, 1) := by decide +kernel
theorem dL_isRefused_12 : decode cL_isRefused 12 = .ok (.iload_n 3, 1) := by decide +kernel
theorem dL_isRefused_13 : decode cL_isRefused 13 = .ok (.ifCond .eq 12, 3) := by decide +kernel
theorem dL_isRefused_16 : decode cL_isRefused 16 = .ok (.iconst (-1), 1) := by decide +kernel
theorem dL_isRefused_17 : decode cL_isRefused 17 = .ok (.iload_n 2, 1) := by decide +kernel
theorem dL_isRefused_18 : decode cL_isRefused 18 = .ok (.bipush 30, 2) := by decide +kernel
theorem dL_isRefused_20 : decode cL_isRefused 20 = .ok (.irem, 1) := by decide +kernel
theorem dL_isRefused_21 : decode cL_isRefused 21 = .ok (.isub, 1) := by decide +kernel
theorem dL_isRefused_22 : decode cL_isRefused 22 = .ok (.goto 10, 3) := by decide +kernel
theorem dL_isRefused_25 : decode cL_isRefused 25 = .ok (.bipush 8, 2) := by decide +kernel
theorem dL_isRefused_27 : decode cL_isRefused 27 = .ok (.iload_n 2, 1) := by decide +kernel
theorem dL_isRefused_28 : decode cL_isRefused 28 = .ok (.bipush 30, 2) := by decide +kernel
theorem dL_isRefused_30 : decode cL_isRefused 30 = .ok (.irem, 1) := by decide +kernel
theorem dL_isRefused_31 : decode cL_isRefused 31 = .ok (.iadd, 1) := by decide +kernel
theorem dL_isRefused_32 : decode cL_isRefused 32 = .ok (.istore 4, 2) := by decide +kernel
theorem dL_isRefused_34 : decode cL_isRefused 34 = .ok (.iload_n 2, 1) := by decide +kernel
theorem dL_isRefused_35 : decode cL_isRefused 35 = .ok (.iconst 2, 1) := by decide +kernel
theorem dL_isRefused_36 : decode cL_isRefused 36 = .ok (.idiv, 1) := by decide +kernel
theorem dL_isRefused_37 : decode cL_isRefused 37 = .ok (.bipush 8, 2) := by decide +kernel
theorem dL_isRefused_39 : decode cL_isRefused 39 = .ok (.irem, 1) := by decide +kernel
theorem dL_isRefused_40 : decode cL_isRefused 40 = .ok (.istore 5, 2) := by decide +kernel
theorem dL_isRefused_42 : decode cL_isRefused 42 = .ok (.aload_n 0, 1) := by decide +kernel
theorem dL_isRefused_43 : decode cL_isRefused 43 = .ok (.invokestatic 154, 3) := by decide +kernel
theorem dL_isRefused_46 : decode cL_isRefused 46 = .ok (.lstore 6, 2) := by decide +kernel
theorem dL_isRefused_48 : decode cL_isRefused 48 = .ok (.aload_n 0, 1) := by decide +kernel
theorem dL_isRefused_49 : decode cL_isRefused 49 = .ok (.iload 4, 2) := by decide +kernel
theorem dL_isRefused_51 : decode cL_isRefused 51 = .ok (.iconst 5, 1) := by decide +kernel
theorem dL_isRefused_52 : decode cL_isRefused 52 = .ok (.iconst 5, 1) := by decide +kernel
theorem dL_isRefused_53 : decode cL_isRefused 53 = .ok (.invokestatic 158, 3) := by decide +kernel
theorem dL_isRefused_56 : decode cL_isRefused 56 = .ok (.sipush (-1232), 3) := by decide +kernel
theorem dL_isRefused_59 : decode cL_isRefused 59 = .ok (.if_icmp .ne 499, 3) := by decide +kernel
theorem dL_isRefused_62 : decode cL_isRefused 62 = .ok (.aload_n 0, 1) := by decide +kernel
theorem dL_isRefused_63 : decode cL_isRefused 63 = .ok (.iload 5, 2) := by decide +kernel
theorem dL_isRefused_65 : decode cL_isRefused 65 = .ok (.iload_n 3, 1) := by decide +kernel
theorem dL_isRefused_66 : decode cL_isRefused 66 = .ok (.ifCond .eq 12, 3) := by decide +kernel
theorem dL_isRefused_69 : decode cL_isRefused 69 = .ok (.iconst 0, 1) := by decide +kernel
theorem dL_isRefused_70 : decode cL_isRefused 70 = .ok (.iload_n 2, 1) := by decide +kernel
theorem dL_isRefused_71 : decode cL_isRefused 71 = .ok (.bipush 30, 2) := by decide +kernel
theorem dL_isRefused_73 : decode cL_isRefused 73 = .ok (.irem, 1) := by decide +kernel
theorem dL_isRefused_74 : decode cL_isRefused 74 = .ok (.isub, 1) := by decide +kernel
theorem dL_isRefused_75 : decode cL_isRefused 75 = .ok (.goto 5, 3) := by decide +kernel
theorem dL_isRefused_78 : decode cL_isRefused 78 = .ok (.bipush 101, 2) := by decide +kernel
theorem dL_isRefused_80 : decode cL_isRefused 80 = .ok (.iconst 5, 1) := by decide +kernel
theorem dL_isRefused_81 : decode cL_isRefused 81 = .ok (.invokestatic 158, 3) := by decide +kernel
theorem dL_isRefused_84 : decode cL_isRefused 84 = .ok (.sipush (-1232), 3) := by decide +kernel
theorem dL_isRefused_87 : decode cL_isRefused 87 = .ok (.if_icmp .ne 471, 3) := by decide +kernel
theorem dL_isRefused_90 : decode cL_isRefused 90 = .ok (.aload_n 0, 1) := by decide +kernel
theorem dL_isRefused_91 : decode cL_isRefused 91 = .ok (.iload 5, 2) := by decide +kernel
theorem dL_isRefused_93 : decode cL_isRefused 93 = .ok (.iconst 5, 1) := by decide +kernel
theorem dL_isRefused_94 : decode cL_isRefused 94 = .ok (.iload_n 3, 1) := by decide +kernel
theorem dL_isRefused_95 : decode cL_isRefused 95 = .ok (.ifCond .eq 12, 3) := by decide +kernel
theorem dL_isRefused_98 : decode cL_isRefused 98 = .ok (.iconst 0, 1) := by decide +kernel
theorem dL_isRefused_99 : decode cL_isRefused 99 = .ok (.iload_n 2, 1) := by decide +kernel
theorem dL_isRefused_100 : decode cL_isRefused 100 = .ok (.bipush 30, 2) := by decide +kernel
theorem dL_isRefused_102 : decode cL_isRefused 102 = .ok (.irem, 1) := by decide +kernel
theorem dL_isRefused_103 : decode cL_isRefused 103 = .ok (.isub, 1) := by decide +kernel
theorem dL_isRefused_104 : decode cL_isRefused 104 = .ok (.goto 6, 3) := by decide +kernel
theorem dL_isRefused_107 : decode cL_isRefused 107 = .ok (.sipush 1001, 3) := by decide +kernel
theorem dL_isRefused_110 : decode cL_isRefused 110 = .ok (.invokestatic 158, 3) := by decide +kernel
theorem dL_isRefused_113 : decode cL_isRefused 113 = .ok (.sipush (-1232), 3) := by decide +kernel
theorem dL_isRefused_116 : decode cL_isRefused 116 = .ok (.if_icmp .ne 442, 3) := by decide +kernel
theorem dL_isRefused_119 : decode cL_isRefused 119 = .ok (.aload_n 0, 1) := by decide +kernel
theorem dL_isRefused_120 : decode cL_isRefused 120 = .ok (.iconst 0, 1) := by decide +kernel
theorem dL_isRefused_121 : decode cL_isRefused 121 = .ok (.iload 4, 2) := by decide +kernel
theorem dL_isRefused_123 : decode cL_isRefused 123 = .ok (.iconst 5, 1) := by decide +kernel
theorem dL_isRefused_124 : decode cL_isRefused 124 = .ok (.invokestatic 138, 3) := by decide +kernel
theorem dL_isRefused_127 : decode cL_isRefused 127 = .ok (.sipush (-1232), 3) := by decide +kernel
theorem dL_isRefused_130 : decode cL_isRefused 130 = .ok (.if_icmp .ne 428, 3) := by decide +kernel
theorem dL_isRefused_133 : decode cL_isRefused 133 = .ok (.aload_n 0, 1) := by decide +kernel
theorem dL_isRefused_134 : decode cL_isRefused 134 = .ok (.iconst 0, 1) := by decide +kernel
theorem dL_isRefused_135 : decode cL_isRefused 135 = .ok (.iload 5, 2) := by decide +kernel
theorem dL_isRefused_137 : decode cL_isRefused 137 = .ok (.iload_n 3, 1) := by decide +kernel
theorem dL_isRefused_138 : decode cL_isRefused 138 = .ok (.ifCond .eq 12, 3) := by decide +kernel
theorem dL_isRefused_141 : decode cL_isRefused 141 = .ok (.iconst 0, 1) := by decide +kernel
theorem dL_isRefused_142 : decode cL_isRefused 142 = .ok (.iload_n 2, 1) := by decide +kernel
theorem dL_isRefused_143 : decode cL_isRefused 143 = .ok (.bipush 30, 2) := by decide +kernel
theorem dL_isRefused_145 : decode cL_isRefused 145 = .ok (.irem, 1) := by decide +kernel
theorem dL_isRefused_146 : decode cL_isRefused 146 = .ok (.isub, 1) := by decide +kernel
theorem dL_isRefused_147 : decode cL_isRefused 147 = .ok (.goto 5, 3) := by decide +kernel
theorem dL_isRefused_150 : decode cL_isRefused 150 = .ok (.bipush 51, 2) := by decide +kernel
theorem dL_isRefused_152 : decode cL_isRefused 152 = .ok (.invokestatic 138, 3) := by decide +kernel
theorem dL_isRefused_155 : decode cL_isRefused 155 = .ok (.sipush (-1232), 3) := by decide +kernel
theorem dL_isRefused_158 : decode cL_isRefused 158 = .ok (.if_icmp .ne 400, 3) := by decide +kernel
theorem dL_isRefused_161 : decode cL_isRefused 161 = .ok (.aload_n 0, 1) := by decide +kernel
theorem dL_isRefused_162 : decode cL_isRefused 162 = .ok (.iconst 1, 1) := by decide +kernel
theorem dL_isRefused_163 : decode cL_isRefused 163 = .ok (.iload_n 3, 1) := by decide +kernel
theorem dL_isRefused_164 : decode cL_isRefused 164 = .ok (.ifCond .eq 12, 3) := by decide +kernel
theorem dL_isRefused_167 : decode cL_isRefused 167 = .ok (.iconst (-1), 1) := by decide +kernel
theorem dL_isRefused_168 : decode cL_isRefused 168 = .ok (.iload_n 2, 1) := by decide +kernel
theorem dL_isRefused_169 : decode cL_isRefused 169 = .ok (.bipush 30, 2) := by decide +kernel
theorem dL_isRefused_171 : decode cL_isRefused 171 = .ok (.irem, 1) := by decide +kernel
theorem dL_isRefused_172 : decode cL_isRefused 172 = .ok (.isub, 1) := by decide +kernel
theorem dL_isRefused_173 : decode cL_isRefused 173 = .ok (.goto 6, 3) := by decide +kernel
theorem dL_isRefused_176 : decode cL_isRefused 176 = .ok (.sipush 1001, 3) := by decide +kernel
theorem dL_isRefused_179 : decode cL_isRefused 179 = .ok (.iconst 0, 1) := by decide +kernel
theorem dL_isRefused_180 : decode cL_isRefused 180 = .ok (.invokestatic 138, 3) := by decide +kernel
theorem dL_isRefused_183 : decode cL_isRefused 183 = .ok (.sipush (-1232), 3) := by decide +kernel
theorem dL_isRefused_186 : decode cL_isRefused 186 = .ok (.if_icmp .ne 372, 3) := by decide +kernel
theorem dL_isRefused_189 : decode cL_isRefused 189 = .ok (.aload_n 0, 1) := by decide +kernel
theorem dL_isRefused_190 : decode cL_isRefused 190 = .ok (.iconst 2, 1) := by decide +kernel
theorem dL_isRefused_191 : decode cL_isRefused 191 = .ok (.iload 4, 2) := by decide +kernel
theorem dL_isRefused_193 : decode cL_isRefused 193 = .ok (.iconst 5, 1) := by decide +kernel
theorem dL_isRefused_194 : decode cL_isRefused 194 = .ok (.invokestatic 138, 3) := by decide +kernel
theorem dL_isRefused_197 : decode cL_isRefused 197 = .ok (.sipush (-1232), 3) := by decide +kernel
theorem dL_isRefused_200 : decode cL_isRefused 200 = .ok (.if_icmp .ne 358, 3) := by decide +kernel
theorem dL_isRefused_203 : decode cL_isRefused 203 = .ok (.aload_n 0, 1) := by decide +kernel
theorem dL_isRefused_204 : decode cL_isRefused 204 = .ok (.iconst 2, 1) := by decide +kernel
theorem dL_isRefused_205 : decode cL_isRefused 205 = .ok (.iload 5, 2) := by decide +kernel
theorem dL_isRefused_207 : decode cL_isRefused 207 = .ok (.iload_n 3, 1) := by decide +kernel
theorem dL_isRefused_208 : decode cL_isRefused 208 = .ok (.ifCond .eq 12, 3) := by decide +kernel
theorem dL_isRefused_211 : decode cL_isRefused 211 = .ok (.iconst 0, 1) := by decide +kernel
theorem dL_isRefused_212 : decode cL_isRefused 212 = .ok (.iload_n 2, 1) := by decide +kernel
theorem dL_isRefused_213 : decode cL_isRefused 213 = .ok (.bipush 30, 2) := by decide +kernel
theorem dL_isRefused_215 : decode cL_isRefused 215 = .ok (.irem, 1) := by decide +kernel
theorem dL_isRefused_216 : decode cL_isRefused 216 = .ok (.isub, 1) := by decide +kernel
theorem dL_isRefused_217 : decode cL_isRefused 217 = .ok (.goto 6, 3) := by decide +kernel
theorem dL_isRefused_220 : decode cL_isRefused 220 = .ok (.sipush 10001, 3) := by decide +kernel
theorem dL_isRefused_223 : decode cL_isRefused 223 = .ok (.invokestatic 138, 3) := by decide +kernel
theorem dL_isRefused_226 : decode cL_isRefused 226 = .ok (.sipush (-1232), 3) := by decide +kernel
theorem dL_isRefused_229 : decode cL_isRefused 229 = .ok (.if_icmp .ne 329, 3) := by decide +kernel
theorem dL_isRefused_232 : decode cL_isRefused 232 = .ok (.aload_n 0, 1) := by decide +kernel
theorem dL_isRefused_233 : decode cL_isRefused 233 = .ok (.iconst 3, 1) := by decide +kernel
theorem dL_isRefused_234 : decode cL_isRefused 234 = .ok (.iload 4, 2) := by decide +kernel
theorem dL_isRefused_236 : decode cL_isRefused 236 = .ok (.iconst (-1), 1) := by decide +kernel
theorem dL_isRefused_237 : decode cL_isRefused 237 = .ok (.invokestatic 138, 3) := by decide +kernel
theorem dL_isRefused_240 : decode cL_isRefused 240 = .ok (.sipush (-1232), 3) := by decide +kernel
theorem dL_isRefused_243 : decode cL_isRefused 243 = .ok (.if_icmp .ne 315, 3) := by decide +kernel
theorem dL_isRefused_246 : decode cL_isRefused 246 = .ok (.aload_n 0, 1) := by decide +kernel
theorem dL_isRefused_247 : decode cL_isRefused 247 = .ok (.iconst 3, 1) := by decide +kernel
theorem dL_isRefused_248 : decode cL_isRefused 248 = .ok (.iload 5, 2) := by decide +kernel
theorem dL_isRefused_250 : decode cL_isRefused 250 = .ok (.iload_n 3, 1) := by decide +kernel
theorem dL_isRefused_251 : decode cL_isRefused 251 = .ok (.ifCond .eq 13, 3) := by decide +kernel
theorem dL_isRefused_254 : decode cL_isRefused 254 = .ok (.bipush (-2), 2) := by decide +kernel
theorem dL_isRefused_256 : decode cL_isRefused 256 = .ok (.iload_n 2, 1) := by decide +kernel
theorem dL_isRefused_257 : decode cL_isRefused 257 = .ok (.bipush 30, 2) := by decide +kernel
theorem dL_isRefused_259 : decode cL_isRefused 259 = .ok (.irem, 1) := by decide +kernel
theorem dL_isRefused_260 : decode cL_isRefused 260 = .ok (.isub, 1) := by decide +kernel
theorem dL_isRefused_261 : decode cL_isRefused 261 = .ok (.goto 5, 3) := by decide +kernel
theorem dL_isRefused_264 : decode cL_isRefused 264 = .ok (.bipush 11, 2) := by decide +kernel
theorem dL_isRefused_266 : decode cL_isRefused 266 = .ok (.invokestatic 138, 3) := by decide +kernel
theorem dL_isRefused_269 : decode cL_isRefused 269 = .ok (.sipush (-1232), 3) := by decide +kernel
theorem dL_isRefused_272 : decode cL_isRefused 272 = .ok (.if_icmp .ne 286, 3) := by decide +kernel
theorem dL_isRefused_275 : decode cL_isRefused 275 = .ok (.aload_n 0, 1) := by decide +kernel
theorem dL_isRefused_276 : decode cL_isRefused 276 = .ok (.iconst 4, 1) := by decide +kernel
theorem dL_isRefused_277 : decode cL_isRefused 277 = .ok (.iload 4, 2) := by decide +kernel
theorem dL_isRefused_279 : decode cL_isRefused 279 = .ok (.iconst 0, 1) := by decide +kernel
theorem dL_isRefused_280 : decode cL_isRefused 280 = .ok (.invokestatic 138, 3) := by decide +kernel
theorem dL_isRefused_283 : decode cL_isRefused 283 = .ok (.sipush (-1232), 3) := by decide +kernel
theorem dL_isRefused_286 : decode cL_isRefused 286 = .ok (.if_icmp .ne 272, 3) := by decide +kernel
theorem dL_isRefused_289 : decode cL_isRefused 289 = .ok (.aload_n 0, 1) := by decide +kernel
theorem dL_isRefused_290 : decode cL_isRefused 290 = .ok (.iconst 4, 1) := by decide +kernel
theorem dL_isRefused_291 : decode cL_isRefused 291 = .ok (.iload 5, 2) := by decide +kernel
theorem dL_isRefused_293 : decode cL_isRefused 293 = .ok (.iload_n 3, 1) := by decide +kernel
theorem dL_isRefused_294 : decode cL_isRefused 294 = .ok (.ifCond .eq 12, 3) := by decide +kernel
theorem dL_isRefused_297 : decode cL_isRefused 297 = .ok (.iconst (-1), 1) := by decide +kernel
theorem dL_isRefused_298 : decode cL_isRefused 298 = .ok (.iload_n 2, 1) := by decide +kernel
theorem dL_isRefused_299 : decode cL_isRefused 299 = .ok (.bipush 30, 2) := by decide +kernel
theorem dL_isRefused_301 : decode cL_isRefused 301 = .ok (.irem, 1) := by decide +kernel
theorem dL_isRefused_302 : decode cL_isRefused 302 = .ok (.isub, 1) := by decide +kernel
theorem dL_isRefused_303 : decode cL_isRefused 303 = .ok (.goto 4, 3) := by decide +kernel
theorem dL_isRefused_306 : decode cL_isRefused 306 = .ok (.iconst 4, 1) := by decide +kernel
theorem dL_isRefused_307 : decode cL_isRefused 307 = .ok (.invokestatic 138, 3) := by decide +kernel
theorem dL_isRefused_310 : decode cL_isRefused 310 = .ok (.sipush (-1232), 3) := by decide +kernel
theorem dL_isRefused_313 : decode cL_isRefused 313 = .ok (.if_icmp .ne 245, 3) := by decide +kernel
theorem dL_isRefused_316 : decode cL_isRefused 316 = .ok (.aload_n 0, 1) := by decide +kernel
theorem dL_isRefused_317 : decode cL_isRefused 317 = .ok (.iconst 5, 1) := by decide +kernel
theorem dL_isRefused_318 : decode cL_isRefused 318 = .ok (.iload 4, 2) := by decide +kernel
theorem dL_isRefused_320 : decode cL_isRefused 320 = .ok (.iconst 1, 1) := by decide +kernel
theorem dL_isRefused_321 : decode cL_isRefused 321 = .ok (.invokestatic 138, 3) := by decide +kernel
theorem dL_isRefused_324 : decode cL_isRefused 324 = .ok (.sipush (-1232), 3) := by decide +kernel
theorem dL_isRefused_327 : decode cL_isRefused 327 = .ok (.if_icmp .ne 231, 3) := by decide +kernel
theorem dL_isRefused_330 : decode cL_isRefused 330 = .ok (.aload_n 0, 1) := by decide +kernel
theorem dL_isRefused_331 : decode cL_isRefused 331 = .ok (.bipush 6, 2) := by decide +kernel
theorem dL_isRefused_333 : decode cL_isRefused 333 = .ok (.iload_n 3, 1) := by decide +kernel
theorem dL_isRefused_334 : decode cL_isRefused 334 = .ok (.ifCond .eq 12, 3) := by decide +kernel
theorem dL_isRefused_337 : decode cL_isRefused 337 = .ok (.iconst 0, 1) := by decide +kernel
theorem dL_isRefused_338 : decode cL_isRefused 338 = .ok (.iload_n 2, 1) := by decide +kernel
theorem dL_isRefused_339 : decode cL_isRefused 339 = .ok (.bipush 30, 2) := by decide +kernel
theorem dL_isRefused_341 : decode cL_isRefused 341 = .ok (.irem, 1) := by decide +kernel
theorem dL_isRefused_342 : decode cL_isRefused 342 = .ok (.isub, 1) := by decide +kernel
theorem dL_isRefused_343 : decode cL_isRefused 343 = .ok (.goto 5, 3) := by decide +kernel
theorem dL_isRefused_346 : decode cL_isRefused 346 = .ok (.bipush 101, 2) := by decide +kernel
theorem dL_isRefused_348 : decode cL_isRefused 348 = .ok (.iconst 0, 1) := by decide +kernel
theorem dL_isRefused_349 : decode cL_isRefused 349 = .ok (.invokestatic 138, 3) := by decide +kernel
theorem dL_isRefused_352 : decode cL_isRefused 352 = .ok (.sipush (-1232), 3) := by decide +kernel
theorem dL_isRefused_355 : decode cL_isRefused 355 = .ok (.if_icmp .ne 203, 3) := by decide +kernel
theorem dL_isRefused_358 : decode cL_isRefused 358 = .ok (.aload_n 0, 1) := by decide +kernel
theorem dL_isRefused_359 : decode cL_isRefused 359 = .ok (.iload 4, 2) := by decide +kernel
theorem dL_isRefused_361 : decode cL_isRefused 361 = .ok (.iconst 1, 1) := by decide +kernel
theorem dL_isRefused_362 : decode cL_isRefused 362 = .ok (.iconst 2, 1) := by decide +kernel
theorem dL_isRefused_363 : decode cL_isRefused 363 = .ok (.iconst 3, 1) := by decide +kernel
theorem dL_isRefused_364 : decode cL_isRefused 364 = .ok (.iconst 4, 1) := by decide +kernel
theorem dL_isRefused_365 : decode cL_isRefused 365 = .ok (.invokestatic 161, 3) := by decide +kernel
theorem dL_isRefused_368 : decode cL_isRefused 368 = .ok (.sipush (-1232), 3) := by decide +kernel
theorem dL_isRefused_371 : decode cL_isRefused 371 = .ok (.if_icmp .ne 187, 3) := by decide +kernel
theorem dL_isRefused_374 : decode cL_isRefused 374 = .ok (.aload_n 0, 1) := by decide +kernel
theorem dL_isRefused_375 : decode cL_isRefused 375 = .ok (.iload 5, 2) := by decide +kernel
theorem dL_isRefused_377 : decode cL_isRefused 377 = .ok (.iconst (-1), 1) := by decide +kernel
theorem dL_isRefused_378 : decode cL_isRefused 378 = .ok (.iload_n 2, 1) := by decide +kernel
theorem dL_isRefused_379 : decode cL_isRefused 379 = .ok (.bipush 30, 2) := by decide +kernel
theorem dL_isRefused_381 : decode cL_isRefused 381 = .ok (.irem, 1) := by decide +kernel
theorem dL_isRefused_382 : decode cL_isRefused 382 = .ok (.isub, 1) := by decide +kernel
theorem dL_isRefused_383 : decode cL_isRefused 383 = .ok (.iconst 2, 1) := by decide +kernel
theorem dL_isRefused_384 : decode cL_isRefused 384 = .ok (.iconst 3, 1) := by decide +kernel
theorem dL_isRefused_385 : decode cL_isRefused 385 = .ok (.iconst 4, 1) := by decide +kernel
theorem dL_isRefused_386 : decode cL_isRefused 386 = .ok (.invokestatic 161, 3) := by decide +kernel
theorem dL_isRefused_389 : decode cL_isRefused 389 = .ok (.sipush (-1232), 3) := by decide +kernel
theorem dL_isRefused_392 : decode cL_isRefused 392 = .ok (.if_icmp .ne 166, 3) := by decide +kernel
theorem dL_isRefused_395 : decode cL_isRefused 395 = .ok (.aload_n 0, 1) := by decide +kernel
theorem dL_isRefused_396 : decode cL_isRefused 396 = .ok (.iload 5, 2) := by decide +kernel
theorem dL_isRefused_398 : decode cL_isRefused 398 = .ok (.iconst 5, 1) := by decide +kernel
theorem dL_isRefused_399 : decode cL_isRefused 399 = .ok (.iload_n 3, 1) := by decide +kernel
theorem dL_isRefused_400 : decode cL_isRefused 400 = .ok (.ifCond .eq 7, 3) := by decide +kernel
theorem dL_isRefused_403 : decode cL_isRefused 403 = .ok (.iconst 4, 1) := by decide +kernel
theorem dL_isRefused_404 : decode cL_isRefused 404 = .ok (.goto 6, 3) := by decide +kernel
theorem dL_isRefused_407 : decode cL_isRefused 407 = .ok (.sipush 1001, 3) := by decide +kernel
theorem dL_isRefused_410 : decode cL_isRefused 410 = .ok (.iconst 3, 1) := by decide +kernel
theorem dL_isRefused_411 : decode cL_isRefused 411 = .ok (.iconst 4, 1) := by decide +kernel
theorem dL_isRefused_412 : decode cL_isRefused 412 = .ok (.invokestatic 161, 3) := by decide +kernel
theorem dL_isRefused_415 : decode cL_isRefused 415 = .ok (.sipush (-1232), 3) := by decide +kernel
theorem dL_isRefused_418 : decode cL_isRefused 418 = .ok (.if_icmp .ne 140, 3) := by decide +kernel
theorem dL_isRefused_421 : decode cL_isRefused 421 = .ok (.aload_n 0, 1) := by decide +kernel
theorem dL_isRefused_422 : decode cL_isRefused 422 = .ok (.iload 5, 2) := by decide +kernel
theorem dL_isRefused_424 : decode cL_isRefused 424 = .ok (.iconst 1, 1) := by decide +kernel
theorem dL_isRefused_425 : decode cL_isRefused 425 = .ok (.iconst 2, 1) := by decide +kernel
theorem dL_isRefused_426 : decode cL_isRefused 426 = .ok (.iload_n 3, 1) := by decide +kernel
theorem dL_isRefused_427 : decode cL_isRefused 427 = .ok (.ifCond .eq 12, 3) := by decide +kernel
theorem dL_isRefused_430 : decode cL_isRefused 430 = .ok (.iconst (-1), 1) := by decide +kernel
theorem dL_isRefused_431 : decode cL_isRefused 431 = .ok (.iload_n 2, 1) := by decide +kernel
theorem dL_isRefused_432 : decode cL_isRefused 432 = .ok (.bipush 30, 2) := by decide +kernel
theorem dL_isRefused_434 : decode cL_isRefused 434 = .ok (.irem, 1) := by decide +kernel
theorem dL_isRefused_435 : decode cL_isRefused 435 = .ok (.isub, 1) := by decide +kernel
theorem dL_isRefused_436 : decode cL_isRefused 436 = .ok (.goto 6, 3) := by decide +kernel
theorem dL_isRefused_439 : decode cL_isRefused 439 = .ok (.sipush 1001, 3) := by decide +kernel
theorem dL_isRefused_442 : decode cL_isRefused 442 = .ok (.iconst 4, 1) := by decide +kernel
theorem dL_isRefused_443 : decode cL_isRefused 443 = .ok (.invokestatic 161, 3) := by decide +kernel
theorem dL_isRefused_446 : decode cL_isRefused 446 = .ok (.sipush (-1232), 3) := by decide +kernel
theorem dL_isRefused_449 : decode cL_isRefused 449 = .ok (.if_icmp .ne 109, 3) := by decide +kernel
theorem dL_isRefused_452 : decode cL_isRefused 452 = .ok (.aload_n 0, 1) := by decide +kernel
theorem dL_isRefused_453 : decode cL_isRefused 453 = .ok (.iload 5, 2) := by decide +kernel
theorem dL_isRefused_455 : decode cL_isRefused 455 = .ok (.iconst 1, 1) := by decide +kernel
theorem dL_isRefused_456 : decode cL_isRefused 456 = .ok (.iconst 2, 1) := by decide +kernel
theorem dL_isRefused_457 : decode cL_isRefused 457 = .ok (.iconst 3, 1) := by decide +kernel
theorem dL_isRefused_458 : decode cL_isRefused 458 = .ok (.iload_n 3, 1) := by decide +kernel
theorem dL_isRefused_459 : decode cL_isRefused 459 = .ok (.ifCond .eq 12, 3) := by decide +kernel
theorem dL_isRefused_462 : decode cL_isRefused 462 = .ok (.iconst (-1), 1) := by decide +kernel
theorem dL_isRefused_463 : decode cL_isRefused 463 = .ok (.iload_n 2, 1) := by decide +kernel
theorem dL_isRefused_464 : decode cL_isRefused 464 = .ok (.bipush 30, 2) := by decide +kernel
theorem dL_isRefused_466 : decode cL_isRefused 466 = .ok (.irem, 1) := by decide +kernel
theorem dL_isRefused_467 : decode cL_isRefused 467 = .ok (.isub, 1) := by decide +kernel
theorem dL_isRefused_468 : decode cL_isRefused 468 = .ok (.goto 5, 3) := by decide +kernel
theorem dL_isRefused_471 : decode cL_isRefused 471 = .ok (.bipush 101, 2) := by decide +kernel
theorem dL_isRefused_473 : decode cL_isRefused 473 = .ok (.invokestatic 161, 3) := by decide +kernel
theorem dL_isRefused_476 : decode cL_isRefused 476 = .ok (.sipush (-1232), 3) := by decide +kernel
theorem dL_isRefused_479 : decode cL_isRefused 479 = .ok (.if_icmp .ne 79, 3) := by decide +kernel
theorem dL_isRefused_482 : decode cL_isRefused 482 = .ok (.aload_n 0, 1) := by decide +kernel
theorem dL_isRefused_483 : decode cL_isRefused 483 = .ok (.iload_n 3, 1) := by decide +kernel
theorem dL_isRefused_484 : decode cL_isRefused 484 = .ok (.ifCond .eq 12, 3) := by decide +kernel
theorem dL_isRefused_487 : decode cL_isRefused 487 = .ok (.iconst 0, 1) := by decide +kernel
theorem dL_isRefused_488 : decode cL_isRefused 488 = .ok (.iload_n 2, 1) := by decide +kernel
theorem dL_isRefused_489 : decode cL_isRefused 489 = .ok (.bipush 30, 2) := by decide +kernel
theorem dL_isRefused_491 : decode cL_isRefused 491 = .ok (.irem, 1) := by decide +kernel
theorem dL_isRefused_492 : decode cL_isRefused 492 = .ok (.isub, 1) := by decide +kernel
theorem dL_isRefused_493 : decode cL_isRefused 493 = .ok (.goto 5, 3) := by decide +kernel
theorem dL_isRefused_496 : decode cL_isRefused 496 = .ok (.bipush 51, 2) := by decide +kernel
theorem dL_isRefused_498 : decode cL_isRefused 498 = .ok (.bipush 60, 2) := by decide +kernel
theorem dL_isRefused_500 : decode cL_isRefused 500 = .ok (.invokestatic 165, 3) := by decide +kernel
theorem dL_isRefused_503 : decode cL_isRefused 503 = .ok (.sipush (-1232), 3) := by decide +kernel
theorem dL_isRefused_506 : decode cL_isRefused 506 = .ok (.if_icmp .ne 52, 3) := by decide +kernel
theorem dL_isRefused_509 : decode cL_isRefused 509 = .ok (.aload_n 0, 1) := by decide +kernel
theorem dL_isRefused_510 : decode cL_isRefused 510 = .ok (.iconst 5, 1) := by decide +kernel
theorem dL_isRefused_511 : decode cL_isRefused 511 = .ok (.iload_n 3, 1) := by decide +kernel
theorem dL_isRefused_512 : decode cL_isRefused 512 = .ok (.ifCond .eq 7, 3) := by decide +kernel
theorem dL_isRefused_515 : decode cL_isRefused 515 = .ok (.iconst 4, 1) := by decide +kernel
theorem dL_isRefused_516 : decode cL_isRefused 516 = .ok (.goto 5, 3) := by decide +kernel
theorem dL_isRefused_519 : decode cL_isRefused 519 = .ok (.bipush 101, 2) := by decide +kernel
theorem dL_isRefused_521 : decode cL_isRefused 521 = .ok (.invokestatic 165, 3) := by decide +kernel
theorem dL_isRefused_524 : decode cL_isRefused 524 = .ok (.sipush (-1232), 3) := by decide +kernel
theorem dL_isRefused_527 : decode cL_isRefused 527 = .ok (.if_icmp .ne 31, 3) := by decide +kernel
theorem dL_isRefused_530 : decode cL_isRefused 530 = .ok (.aload_n 0, 1) := by decide +kernel
theorem dL_isRefused_531 : decode cL_isRefused 531 = .ok (.iload 4, 2) := by decide +kernel
theorem dL_isRefused_533 : decode cL_isRefused 533 = .ok (.invokestatic 169, 3) := by decide +kernel
theorem dL_isRefused_536 : decode cL_isRefused 536 = .ok (.sipush (-1232), 3) := by decide +kernel
theorem dL_isRefused_539 : decode cL_isRefused 539 = .ok (.if_icmp .ne 19, 3) := by decide +kernel
theorem dL_isRefused_542 : decode cL_isRefused 542 = .ok (.aload_n 0, 1) := by decide +kernel
theorem dL_isRefused_543 : decode cL_isRefused 543 = .ok (.iload 4, 2) := by decide +kernel
theorem dL_isRefused_545 : decode cL_isRefused 545 = .ok (.invokestatic 173, 3) := by decide +kernel
theorem dL_isRefused_548 : decode cL_isRefused 548 = .ok (.sipush (-1232), 3) := by decide +kernel
theorem dL_isRefused_551 : decode cL_isRefused 551 = .ok (.if_icmp .ne 7, 3) := by decide +kernel
theorem dL_isRefused_554 : decode cL_isRefused 554 = .ok (.iconst 1, 1) := by decide +kernel
theorem dL_isRefused_555 : decode cL_isRefused 555 = .ok (.goto 4, 3) := by decide +kernel
theorem dL_isRefused_558 : decode cL_isRefused 558 = .ok (.iconst 0, 1) := by decide +kernel
theorem dL_isRefused_559 : decode cL_isRefused 559 = .ok (.istore 8, 2) := by decide +kernel
theorem dL_isRefused_561 : decode cL_isRefused 561 = .ok (.iconst 0, 1) := by decide +kernel
theorem dL_isRefused_562 : decode cL_isRefused 562 = .ok (.istore 9, 2) := by decide +kernel
theorem dL_isRefused_564 : decode cL_isRefused 564 = .ok (.iload 9, 2) := by decide +kernel
theorem dL_isRefused_566 : decode cL_isRefused 566 = .ok (.bipush 15, 2) := by decide +kernel
theorem dL_isRefused_568 : decode cL_isRefused 568 = .ok (.if_icmp .ge 59, 3) := by decide +kernel
theorem dL_isRefused_571 : decode cL_isRefused 571 = .ok (.iload 8, 2) := by decide +kernel
theorem dL_isRefused_573 : decode cL_isRefused 573 = .ok (.ifCond .eq 54, 3) := by decide +kernel
theorem dL_isRefused_576 : decode cL_isRefused 576 = .ok (.aload_n 0, 1) := by decide +kernel
theorem dL_isRefused_577 : decode cL_isRefused 577 = .ok (.iload 9, 2) := by decide +kernel
theorem dL_isRefused_579 : decode cL_isRefused 579 = .ok (.iload 4, 2) := by decide +kernel
theorem dL_isRefused_581 : decode cL_isRefused 581 = .ok (.iconst 0, 1) := by decide +kernel
theorem dL_isRefused_582 : decode cL_isRefused 582 = .ok (.invokestatic 176, 3) := by decide +kernel
theorem dL_isRefused_585 : decode cL_isRefused 585 = .ok (.sipush (-1232), 3) := by decide +kernel
theorem dL_isRefused_588 : decode cL_isRefused 588 = .ok (.if_icmp .ne 30, 3) := by decide +kernel
theorem dL_isRefused_591 : decode cL_isRefused 591 = .ok (.iload 9, 2) := by decide +kernel
theorem dL_isRefused_593 : decode cL_isRefused 593 = .ok (.bipush 10, 2) := by decide +kernel
theorem dL_isRefused_595 : decode cL_isRefused 595 = .ok (.if_icmp .lt 19, 3) := by decide +kernel
theorem dL_isRefused_598 : decode cL_isRefused 598 = .ok (.aload_n 0, 1) := by decide +kernel
theorem dL_isRefused_599 : decode cL_isRefused 599 = .ok (.iload 9, 2) := by decide +kernel
theorem dL_isRefused_601 : decode cL_isRefused 601 = .ok (.iload 5, 2) := by decide +kernel
theorem dL_isRefused_603 : decode cL_isRefused 603 = .ok (.iload 4, 2) := by decide +kernel
theorem dL_isRefused_605 : decode cL_isRefused 605 = .ok (.invokestatic 176, 3) := by decide +kernel
theorem dL_isRefused_608 : decode cL_isRefused 608 = .ok (.sipush (-1232), 3) := by decide +kernel
theorem dL_isRefused_611 : decode cL_isRefused 611 = .ok (.if_icmp .ne 7, 3) := by decide +kernel
theorem dL_isRefused_614 : decode cL_isRefused 614 = .ok (.iconst 1, 1) := by decide +kernel
theorem dL_isRefused_615 : decode cL_isRefused 615 = .ok (.goto 4, 3) := by decide +kernel
theorem dL_isRefused_618 : decode cL_isRefused 618 = .ok (.iconst 0, 1) := by decide +kernel
theorem dL_isRefused_619 : decode cL_isRefused 619 = .ok (.istore 8, 2) := by decide +kernel
theorem dL_isRefused_621 : decode cL_isRefused 621 = .ok (.iinc 9 1, 3) := by decide +kernel
theorem dL_isRefused_624 : decode cL_isRefused 624 = .ok (.goto (-60), 3) := by decide +kernel
theorem dL_isRefused_627 : decode cL_isRefused 627 = .ok (.iconst 0, 1) := by decide +kernel
theorem dL_isRefused_628 : decode cL_isRefused 628 = .ok (.istore 9, 2) := by decide +kernel
theorem dL_isRefused_630 : decode cL_isRefused 630 = .ok (.iload 9, 2) := by decide +kernel
theorem dL_isRefused_632 : decode cL_isRefused 632 = .ok (.bipush 8, 2) := by decide +kernel
theorem dL_isRefused_634 : decode cL_isRefused 634 = .ok (.if_icmp .ge 79, 3) := by decide +kernel
theorem dL_isRefused_637 : decode cL_isRefused 637 = .ok (.iload 8, 2) := by decide +kernel
theorem dL_isRefused_639 : decode cL_isRefused 639 = .ok (.ifCond .eq 74, 3) := by decide +kernel
theorem dL_isRefused_642 : decode cL_isRefused 642 = .ok (.aload_n 1, 1) := by decide +kernel
theorem dL_isRefused_643 : decode cL_isRefused 643 = .ok (.bipush 8, 2) := by decide +kernel
theorem dL_isRefused_645 : decode cL_isRefused 645 = .ok (.iload 9, 2) := by decide +kernel
theorem dL_isRefused_647 : decode cL_isRefused 647 = .ok (.imul, 1) := by decide +kernel
theorem dL_isRefused_648 : decode cL_isRefused 648 = .ok (.iconst 1, 1) := by decide +kernel
theorem dL_isRefused_649 : decode cL_isRefused 649 = .ok (.iadd, 1) := by decide +kernel
theorem dL_isRefused_650 : decode cL_isRefused 650 = .ok (.iaload, 1) := by decide +kernel
theorem dL_isRefused_651 : decode cL_isRefused 651 = .ok (.ifCond .ne 12, 3) := by decide +kernel
theorem dL_isRefused_654 : decode cL_isRefused 654 = .ok (.aload_n 0, 1) := by decide +kernel
theorem dL_isRefused_655 : decode cL_isRefused 655 = .ok (.iload 9, 2) := by decide +kernel
theorem dL_isRefused_657 : decode cL_isRefused 657 = .ok (.invokestatic 173, 3) := by decide +kernel
theorem dL_isRefused_660 : decode cL_isRefused 660 = .ok (.goto 9, 3) := by decide +kernel
theorem dL_isRefused_663 : decode cL_isRefused 663 = .ok (.aload_n 0, 1) := by decide +kernel
theorem dL_isRefused_664 : decode cL_isRefused 664 = .ok (.iload 9, 2) := by decide +kernel
theorem dL_isRefused_666 : decode cL_isRefused 666 = .ok (.invokestatic 169, 3) := by decide +kernel
theorem dL_isRefused_669 : decode cL_isRefused 669 = .ok (.sipush (-1233), 3) := by decide +kernel
theorem dL_isRefused_672 : decode cL_isRefused 672 = .ok (.if_icmp .ne 32, 3) := by decide +kernel
theorem dL_isRefused_675 : decode cL_isRefused 675 = .ok (.aload_n 1, 1) := by decide +kernel
theorem dL_isRefused_676 : decode cL_isRefused 676 = .ok (.bipush 8, 2) := by decide +kernel
theorem dL_isRefused_678 : decode cL_isRefused 678 = .ok (.iload 9, 2) := by decide +kernel
theorem dL_isRefused_680 : decode cL_isRefused 680 = .ok (.imul, 1) := by decide +kernel
theorem dL_isRefused_681 : decode cL_isRefused 681 = .ok (.iaload, 1) := by decide +kernel
theorem dL_isRefused_682 : decode cL_isRefused 682 = .ok (.iconst 1, 1) := by decide +kernel
theorem dL_isRefused_683 : decode cL_isRefused 683 = .ok (.if_icmp .eq 17, 3) := by decide +kernel
theorem dL_isRefused_686 : decode cL_isRefused 686 = .ok (.aload_n 0, 1) := by decide +kernel
theorem dL_isRefused_687 : decode cL_isRefused 687 = .ok (.iconst 3, 1) := by decide +kernel
theorem dL_isRefused_688 : decode cL_isRefused 688 = .ok (.iload 9, 2) := by decide +kernel
theorem dL_isRefused_690 : decode cL_isRefused 690 = .ok (.iconst (-1), 1) := by decide +kernel
theorem dL_isRefused_691 : decode cL_isRefused 691 = .ok (.invokestatic 138, 3) := by decide +kernel
theorem dL_isRefused_694 : decode cL_isRefused 694 = .ok (.sipush (-1233), 3) := by decide +kernel
theorem dL_isRefused_697 : decode cL_isRefused 697 = .ok (.if_icmp .ne 7, 3) := by decide +kernel
theorem dL_isRefused_700 : decode cL_isRefused 700 = .ok (.iconst 1, 1) := by decide +kernel
theorem dL_isRefused_701 : decode cL_isRefused 701 = .ok (.goto 4, 3) := by decide +kernel
theorem dL_isRefused_704 : decode cL_isRefused 704 = .ok (.iconst 0, 1) := by decide +kernel
theorem dL_isRefused_705 : decode cL_isRefused 705 = .ok (.istore 8, 2) := by decide +kernel
theorem dL_isRefused_707 : decode cL_isRefused 707 = .ok (.iinc 9 1, 3) := by decide +kernel
theorem dL_isRefused_710 : decode cL_isRefused 710 = .ok (.goto (-80), 3) := by decide +kernel
theorem dL_isRefused_713 : decode cL_isRefused 713 = .ok (.iload 8, 2) := by decide +kernel
theorem dL_isRefused_715 : decode cL_isRefused 715 = .ok (.ifCond .eq 17, 3) := by decide +kernel
theorem dL_isRefused_718 : decode cL_isRefused 718 = .ok (.aload_n 0, 1) := by decide +kernel
theorem dL_isRefused_719 : decode cL_isRefused 719 = .ok (.invokestatic 154, 3) := by decide +kernel
theorem dL_isRefused_722 : decode cL_isRefused 722 = .ok (.lload 6, 2) := by decide +kernel
theorem dL_isRefused_724 : decode cL_isRefused 724 = .ok (.lcmp, 1) := by decide +kernel
theorem dL_isRefused_725 : decode cL_isRefused 725 = .ok (.ifCond .ne 7, 3) := by decide +kernel
theorem dL_isRefused_728 : decode cL_isRefused 728 = .ok (.iconst 1, 1) := by decide +kernel
theorem dL_isRefused_729 : decode cL_isRefused 729 = .ok (.goto 4, 3) := by decide +kernel
theorem dL_isRefused_732 : decode cL_isRefused 732 = .ok (.iconst 0, 1) := by decide +kernel
theorem dL_isRefused_733 : decode cL_isRefused 733 = .ok (.ireturn, 1) := by decide +kernel
set_option maxRecDepth 20000 in
theorem ggL_law_X3_init : GoodIn wsL_law wsX3_init := goodIn_r _ [6, 7, 8, 9, 10, 11, 12, 13, 14, 15, 16, 17, 18, 19, 20, 21, 22, 23, 24, 25, 26, 3, 27, 28, 29, 30, 31, 32, 33, 34, 35, 36, 37, 38, 39, 40, 41, 42, 43, 44, 45, 46, 47, 48, 49, 50, 51, 52, 53, 54, 55, 56, 57, 58, 59, 60, 61, 62, 63, 64, 65, 66, 67, 68, 436, 437, 438, 439, 440, 441, 442, 443, 432, 433, 434, 435, 444, 445, 446, 447, 448, 449, 450, 451, 452, 453, 454, 455, 456, 457, 458, 459, 460, 461, 462, 463] (by decide +kernel) (by decide +kernel)
set_option maxRecDepth 20000 in
theorem gL_law_X3_init : GoodIn wsL_law (wsX3_init) := ggL_law_X3_init
set_option maxRecDepth 20000 in
theorem ggL_law_L_isRefused : GoodIn wsL_law wsL_isRefused := goodIn_ca (goodIn_ca (goodIn_c1 (goodIn_1 (i := 72) rfl rfl) (goodIn_app (goodIn_app (goodIn_app (goodIn_app (goodIn_app (goodIn_r _ [73, 74, 71, 75, 76, 77, 78, 79, 80, 81, 82, 83, 84, 85, 86, 2, 87, 22, 88, 89, 90, 91, 21, 92] (by decide +kernel) (by decide +kernel)) (goodIn_app (goodIn_r _ [93, 94, 95, 96, 97, 98, 99, 20, 100, 56, 101, 102, 103, 104, 65, 105, 106, 107, 108, 109, 110, 111, 112, 113] (by decide +kernel) (by decide +kernel)) (goodIn_app (goodIn_r _ [114, 115, 116, 13, 117, 118, 119, 120, 121, 122, 123, 124, 125, 126, 127, 128, 129, 17, 130, 131, 132, 133, 134, 135] (by decide +kernel) (by decide +kernel)) (goodIn_app (goodIn_r _ [136, 137, 138, 139, 140, 141, 142, 12, 143, 27, 29, 144, 145, 146, 147, 61, 148, 149, 150, 151, 60, 152, 153, 154] (by decide +kernel) (by decide +kernel)) (goodIn_app (goodIn_r _ [155, 156, 157, 158, 159, 160, 161, 162, 163, 164, 165, 166, 167, 168, 169, 170, 171, 172, 173, 174, 175, 176, 177, 178] (by decide +kernel) (by decide +kernel)) (goodIn_app (goodIn_r _ [179, 180, 181, 182, 183, 184, 185, 186, 187, 188, 189, 190, 191, 192, 193, 194, 195, 196, 197, 198, 199, 200, 201, 202] (by decide +kernel) (by decide +kernel)) (goodIn_app (goodIn_r _ [203, 204, 205, 206, 207, 208, 209, 210, 211, 212, 213, 214, 215, 216, 217, 218, 219, 220, 221, 222, 223, 224, 225, 226] (by decide +kernel) (by decide +kernel)) (goodIn_app (goodIn_r _ [227, 228, 229, 230, 231, 232, 233, 234, 235, 236, 237, 238, 239, 240, 241, 242, 243, 34, 30, 244, 245, 246, 247, 31] (by decide +kernel) (by decide +kernel)) (goodIn_app (goodIn_r _ [248, 249, 250, 251, 252, 253, 254, 255, 32, 256, 257, 258, 16, 259, 44, 43, 260, 261, 262, 263, 264, 265, 266, 267] (by decide +kernel) (by decide +kernel)) (goodIn_app (goodIn_r _ [28, 268, 269, 270, 33, 271, 272, 273, 274, 275, 276, 277, 278, 279, 57, 62, 63, 64, 280, 281, 282, 283, 284, 285] (by decide +kernel) (by decide +kernel)) (goodIn_app (goodIn_r _ [286, 287, 58, 68, 288, 289, 290, 291, 292, 293, 294, 295, 296, 297, 298, 299, 300, 301, 302, 303, 304, 305, 306, 307] (by decide +kernel) (by decide +kernel)) (goodIn_app (goodIn_r _ [308, 309, 310, 311, 312, 67, 66, 313, 314, 315, 316, 317, 318, 319, 320, 321, 322, 323, 324, 325, 326, 327, 328, 329] (by decide +kernel) (by decide +kernel)) (goodIn_app (goodIn_r _ [330, 331, 49, 332, 333, 334, 335, 46, 45, 336, 337, 338, 339, 340, 341, 342, 343, 344, 345, 346, 347, 348, 349, 350] (by decide +kernel) (by decide +kernel)) (goodIn_app (goodIn_r _ [351, 352, 353, 354, 355, 356, 357, 358, 359, 360, 361, 362, 363, 364, 365, 366, 367, 368, 369, 370, 36, 37, 38, 371] (by decide +kernel) (by decide +kernel)) (goodIn_app (goodIn_r _ [372, 373, 374, 375, 376, 377, 378, 379, 380, 381, 382, 383, 384, 385, 386, 387, 388, 389, 390, 391, 392, 393, 394, 395] (by decide +kernel) (by decide +kernel)) (goodIn_r _ [396, 397, 398, 399, 400, 401, 402, 403, 404, 405, 406, 407, 408] (by decide +kernel) (by decide +kernel))))))))))))))))) (goodIn_sub inlX3 (by decide +kernel))) (goodIn_sub inlX1 (by decide +kernel))) (goodIn_sub inlX2 (by decide +kernel))) (goodIn_sub inlX0 (by decide +kernel)))) (goodIn_sub (fun _ h => List.mem_append_left _ (List.mem_append_right _ h)) (by decide +kernel))) (goodIn_sub (fun _ h => List.mem_append_right _ h) (by decide +kernel))
set_option maxRecDepth 20000 in
theorem gL_law_L_isRefused : GoodIn wsL_law (va_wsS RL 180 yL_isRefused wsL_isRefused) := goodIn_app (goodIn_of _ (by decide +kernel)) ggL_law_L_isRefused
set_option maxRecDepth 20000 in
theorem ggL_law_L_dice : GoodIn wsL_law wsL_dice := goodIn_r _ [411, 412, 413] (by decide +kernel) (by decide +kernel)
set_option maxRecDepth 20000 in
theorem gL_law_L_dice : GoodIn wsL_law (va_wsS RL 184 yL_dice wsL_dice) := goodIn_app (goodIn_of _ (by decide +kernel)) ggL_law_L_dice
set_option maxRecDepth 20000 in
theorem ggL_law_L_shaped : GoodIn wsL_law wsL_shaped := goodIn_ca (goodIn_r _ [188, 189, 190, 191, 192, 2, 193, 13, 194, 195, 118, 119, 120, 121, 122, 123, 124, 125, 432, 433, 434, 435, 436, 437, 438, 439, 440, 441, 442, 443] (by decide +kernel) (by decide +kernel)) (goodIn_sub (fun _ h => List.mem_append_left _ (List.mem_append_right _ h)) (by decide +kernel))
set_option maxRecDepth 20000 in
theorem gL_law_L_shaped : GoodIn wsL_law (va_wsS RL 158 yL_shaped wsL_shaped) := goodIn_app (goodIn_of _ (by decide +kernel)) ggL_law_L_shaped
set_option maxRecDepth 20000 in
theorem ggL_law_X3_level : GoodIn wsL_law wsX3_level := goodIn_ca (goodIn_r _ [385, 13, 118, 119, 2, 120, 121, 122, 123, 124, 125, 140, 141, 142, 12, 143, 27, 29, 432, 433, 434, 435, 436, 437, 438, 439, 440, 441, 442, 443] (by decide +kernel) (by decide +kernel)) (goodIn_sub (fun _ h => List.mem_append_left _ (List.mem_append_right _ h)) (by decide +kernel))
set_option maxRecDepth 20000 in
theorem gL_law_X3_level : GoodIn wsL_law (wsV RL 64 RX3 yX3_level wsX3_level) := goodIn_app (goodIn_of _ (by decide +kernel)) ggL_law_X3_level
set_option maxRecDepth 20000 in
theorem ggL_law_X3_volume : GoodIn wsL_law wsX3_volume := goodIn_ca (goodIn_r _ [116, 13, 117, 118, 119, 2, 120, 121, 122, 123, 124, 125, 432, 433, 434, 435, 436, 437, 438, 439, 440, 441, 442, 443] (by decide +kernel) (by decide +kernel)) (goodIn_sub (fun _ h => List.mem_append_left _ (List.mem_append_right _ h)) (by decide +kernel))
set_option maxRecDepth 20000 in
theorem gL_law_X3_volume : GoodIn wsL_law (wsV RL 58 RX3 yX3_volume wsX3_volume) := goodIn_app (goodIn_of _ (by decide +kernel)) ggL_law_X3_volume
set_option maxRecDepth 20000 in
theorem ggL_law_L_act : GoodIn wsL_law wsL_act := goodIn_ca (goodIn_ca (goodIn_r _ [198, 189, 199, 200, 201, 202, 2, 203, 17, 204, 118, 119, 120, 121, 122, 123, 124, 125, 205, 206, 207, 208, 13, 209, 210, 211, 212, 213, 214, 215, 216, 217, 218, 219, 220, 221, 130, 222, 223, 224, 225, 21, 226, 227, 228, 229, 230, 231, 232, 233, 234, 235, 22, 236, 237, 238, 239, 240, 241, 242, 12, 243, 34, 30, 244, 245, 246, 247, 29, 31, 248, 249, 250, 251, 252, 253, 254, 255, 32, 256, 257, 258, 16, 259, 44, 43, 260, 261, 262, 263, 264, 265, 266, 267, 27, 28, 268, 269, 270, 33, 271, 272, 273, 20, 274, 56, 275, 141, 142, 143, 276, 277, 278, 279, 57, 61, 62, 60, 63, 64, 280, 281, 282, 283, 284, 285, 286, 287, 58, 68, 288, 158, 159, 160, 161, 162, 163, 164, 65, 289, 290, 291, 292, 293, 294, 295, 296, 297, 298, 299, 300, 301, 302, 303, 304, 305, 306, 307, 308, 309, 310, 311, 312, 67, 66, 313, 314, 315, 316, 156, 317, 318, 319, 320, 321, 184, 322, 323, 324, 325, 326, 148, 149, 150, 151, 327, 328, 329, 330, 331, 49, 332, 333, 334, 335, 46, 45, 336, 432, 433, 434, 435, 444, 445, 446, 447, 448, 449, 450, 451, 436, 437, 438, 439, 440, 441, 442, 443, 452, 453, 454, 455, 456, 457, 458, 459, 460, 461, 462, 463] (by decide +kernel) (by decide +kernel)) (goodIn_sub (fun _ h => List.mem_append_left _ (List.mem_append_right _ h)) (by decide +kernel))) (goodIn_sub (fun _ h => List.mem_append_right _ h) (by decide +kernel))
set_option maxRecDepth 20000 in
theorem gL_law_L_act : GoodIn wsL_law (va_wsS RL 138 yL_act wsL_act) := goodIn_app (goodIn_of _ (by decide +kernel)) ggL_law_L_act
set_option maxRecDepth 20000 in
theorem ggL_law_L_ruled : GoodIn wsL_law wsL_ruled := goodIn_ca (goodIn_r _ [339, 189, 340, 341, 342, 2, 343, 17, 344, 345, 322, 321, 118, 119, 120, 121, 122, 123, 124, 125, 432, 433, 434, 435, 444, 445, 446, 447, 448, 449, 450, 451] (by decide +kernel) (by decide +kernel)) (goodIn_sub (fun _ h => List.mem_append_left _ (List.mem_append_right _ h)) (by decide +kernel))
set_option maxRecDepth 20000 in
theorem gL_law_L_ruled : GoodIn wsL_law (va_wsS RL 161 yL_ruled wsL_ruled) := goodIn_app (goodIn_of _ (by decide +kernel)) ggL_law_L_ruled
set_option maxRecDepth 20000 in
theorem ggL_law_X3_opening : GoodIn wsL_law wsX3_opening := goodIn_ca (goodIn_r _ [129, 17, 130, 118, 119, 2, 120, 121, 122, 123, 124, 125, 432, 433, 434, 435, 444, 445, 446, 447, 448, 449, 450, 451] (by decide +kernel) (by decide +kernel)) (goodIn_sub (fun _ h => List.mem_append_left _ (List.mem_append_right _ h)) (by decide +kernel))
set_option maxRecDepth 20000 in
theorem gL_law_X3_opening : GoodIn wsL_law (wsV RL 73 RX3 yX3_opening wsX3_opening) := goodIn_app (goodIn_of _ (by decide +kernel)) ggL_law_X3_opening
set_option maxRecDepth 20000 in
theorem ggL_law_X3_time : GoodIn wsL_law wsX3_time := goodIn_r _ [87, 22, 432, 433, 434, 435] (by decide +kernel) (by decide +kernel)
set_option maxRecDepth 20000 in
theorem gL_law_X3_time : GoodIn wsL_law (wsV RL 103 RX3 yX3_time wsX3_time) := goodIn_app (goodIn_of _ (by decide +kernel)) ggL_law_X3_time
set_option maxRecDepth 20000 in
theorem ggL_law_L_fallen : GoodIn wsL_law wsL_fallen := goodIn_ca (goodIn_ca (goodIn_r _ [357, 189, 199, 358, 359, 360, 2, 361, 219, 220, 21, 156, 118, 119, 120, 121, 122, 123, 124, 125, 432, 433, 434, 435, 452, 453, 454, 455, 456, 457, 458, 459, 460, 461, 462, 463] (by decide +kernel) (by decide +kernel)) (goodIn_sub (fun _ h => List.mem_append_right _ h) (by decide +kernel))) (goodIn_sub (fun _ h => List.mem_append_left _ (List.mem_append_right _ h)) (by decide +kernel))
set_option maxRecDepth 20000 in
theorem gL_law_L_fallen : GoodIn wsL_law (va_wsS RL 169 yL_fallen wsL_fallen) := goodIn_app (goodIn_of _ (by decide +kernel)) ggL_law_L_fallen
set_option maxRecDepth 20000 in
theorem ggL_law_L_risen : GoodIn wsL_law wsL_risen := goodIn_ca (goodIn_ca (goodIn_r _ [364, 189, 199, 365, 366, 367, 2, 368, 219, 220, 21, 156, 369, 22, 118, 119, 120, 121, 122, 123, 124, 125, 370, 36, 37, 38, 432, 433, 434, 435, 452, 453, 454, 455, 456, 457, 458, 459, 460, 461, 462, 463] (by decide +kernel) (by decide +kernel)) (goodIn_sub (fun _ h => List.mem_append_right _ h) (by decide +kernel))) (goodIn_sub (fun _ h => List.mem_append_left _ (List.mem_append_right _ h)) (by decide +kernel))
set_option maxRecDepth 20000 in
theorem gL_law_L_risen : GoodIn wsL_law (va_wsS RL 173 yL_risen wsL_risen) := goodIn_app (goodIn_of _ (by decide +kernel)) ggL_law_L_risen
set_option maxRecDepth 20000 in
theorem ggL_law_L_timed : GoodIn wsL_law wsL_timed := goodIn_ca (goodIn_r _ [348, 189, 349, 350, 351, 2, 352, 21, 353, 354, 121, 122, 123, 124, 125, 432, 433, 434, 435, 452, 453, 454, 455, 456, 457, 458, 459, 460, 461, 462, 463] (by decide +kernel) (by decide +kernel)) (goodIn_sub (fun _ h => List.mem_append_left _ (List.mem_append_right _ h)) (by decide +kernel))
set_option maxRecDepth 20000 in
theorem gL_law_L_timed : GoodIn wsL_law (va_wsS RL 165 yL_timed wsL_timed) := goodIn_app (goodIn_of _ (by decide +kernel)) ggL_law_L_timed
set_option maxRecDepth 20000 in
theorem ggL_law_L_isTicked : GoodIn wsL_law wsL_isTicked := goodIn_ca (goodIn_ca (goodIn_c1 (goodIn_1 (i := 416) rfl rfl) (goodIn_app (goodIn_app (goodIn_app (goodIn_app (goodIn_app (goodIn_r _ [417, 418, 71, 419, 113, 114, 115, 2, 116, 13, 117, 118, 119, 120, 121, 122, 123, 124, 125, 386, 387, 388, 389, 390] (by decide +kernel) (by decide +kernel)) (goodIn_app (goodIn_r _ [391, 392, 393, 394, 395, 126, 127, 128, 129, 17, 130, 170, 171, 172, 173, 21, 174, 84, 85, 86, 87, 22, 88, 89] (by decide +kernel) (by decide +kernel)) (goodIn_app (goodIn_r _ [90, 91, 92, 196, 197, 198, 189, 199, 200, 201, 202, 203, 204, 205, 206, 207, 208, 209, 210, 211, 212, 213, 214, 215] (by decide +kernel) (by decide +kernel)) (goodIn_app (goodIn_r _ [216, 217, 218, 219, 220, 221, 222, 223, 224, 225, 226, 227, 228, 229, 230, 231, 232, 233, 234, 235, 236, 237, 238, 239] (by decide +kernel) (by decide +kernel)) (goodIn_app (goodIn_r _ [240, 241, 242, 12, 243, 34, 30, 244, 245, 246, 247, 29, 31, 248, 249, 250, 251, 252, 253, 254, 255, 32, 256, 257] (by decide +kernel) (by decide +kernel)) (goodIn_app (goodIn_r _ [258, 16, 259, 44, 43, 260, 261, 262, 263, 264, 265, 266, 267, 27, 28, 268, 269, 270, 33, 271, 272, 273, 20, 274] (by decide +kernel) (by decide +kernel)) (goodIn_app (goodIn_r _ [56, 275, 141, 142, 143, 276, 277, 278, 279, 57, 61, 62, 60, 63, 64, 280, 281, 282, 283, 284, 285, 286, 287, 58] (by decide +kernel) (by decide +kernel)) (goodIn_app (goodIn_r _ [68, 288, 158, 159, 160, 161, 162, 163, 164, 65, 289, 290, 291, 292, 293, 294, 295, 296, 297, 298, 299, 300, 301, 302] (by decide +kernel) (by decide +kernel)) (goodIn_app (goodIn_r _ [303, 304, 305, 306, 307, 308, 309, 310, 311, 312, 67, 66, 313, 314, 315, 316, 156, 317, 318, 319, 320, 321, 184, 322] (by decide +kernel) (by decide +kernel)) (goodIn_app (goodIn_r _ [323, 324, 325, 326, 148, 149, 150, 151, 327, 328, 329, 330, 331, 49, 332, 333, 334, 335, 46, 45, 336, 420, 421, 422] (by decide +kernel) (by decide +kernel)) (goodIn_app (goodIn_c1 (goodIn_1 (i := 374) rfl rfl) (goodIn_c1 (goodIn_1 (i := 375) rfl rfl) (goodIn_c1 (goodIn_1 (i := 376) rfl rfl) (goodIn_c1 (goodIn_1 (i := 377) rfl rfl) (goodIn_c1 (goodIn_1 (i := 378) rfl rfl) (goodIn_c1 (goodIn_1 (i := 379) rfl rfl) (goodIn_c1 (goodIn_1 (i := 380) rfl rfl) (goodIn_c1 (goodIn_1 (i := 381) rfl rfl) (goodIn_c1 (goodIn_1 (i := 382) rfl rfl) (goodIn_c1 (goodIn_1 (i := 383) rfl rfl) (goodIn_c1 (goodIn_1 (i := 384) rfl rfl) (goodIn_c1 (goodIn_1 (i := 385) rfl rfl) (goodIn_c1 (goodIn_1 (i := 140) rfl rfl) (goodIn_c1 (goodIn_1 (i := 423) rfl rfl) (goodIn_c1 (goodIn_1 (i := 424) rfl rfl) (goodIn_c1 (goodIn_1 (i := 425) rfl rfl) (goodIn_c1 (goodIn_1 (i := 175) rfl rfl) (goodIn_c1 (goodIn_1 (i := 176) rfl rfl) (goodIn_c1 (goodIn_1 (i := 177) rfl rfl) (goodIn_c1 (goodIn_1 (i := 178) rfl rfl) (goodIn_c1 (goodIn_1 (i := 179) rfl rfl) (goodIn_c1 (goodIn_1 (i := 165) rfl rfl) (goodIn_c1 (goodIn_1 (i := 166) rfl rfl) (goodIn_c1 (goodIn_1 (i := 167) rfl rfl) goodIn_nil)))))))))))))))))))))))) (goodIn_r _ [168, 169, 180, 181, 182, 183, 185, 404, 405, 406, 407, 408, 426, 427, 428, 131, 132, 133, 134, 135] (by decide +kernel) (by decide +kernel))))))))))))) (goodIn_sub inlX3 (by decide +kernel))) (goodIn_sub inlX2 (by decide +kernel))) (goodIn_sub inlX0 (by decide +kernel))) (goodIn_sub inlX1 (by decide +kernel)))) (goodIn_sub (fun _ h => List.mem_append_left _ (List.mem_append_right _ h)) (by decide +kernel))) (goodIn_sub (fun _ h => List.mem_append_right _ h) (by decide +kernel))
set_option maxRecDepth 20000 in
theorem gL_law_L_isTicked : GoodIn wsL_law (va_wsS RL 188 yL_isTicked wsL_isTicked) := goodIn_app (goodIn_of _ (by decide +kernel)) ggL_law_L_isTicked
set_option maxRecDepth 20000 in
theorem ggL_law_L_areMembers : GoodIn wsL_law wsL_areMembers := goodIn_ca (goodIn_r _ [431, 180, 181, 182, 2, 183, 21, 184, 118, 119, 120, 121, 122, 123, 124, 125, 185, 149, 150, 20, 151, 60, 382, 383, 384, 385, 13, 140, 141, 142, 12, 143, 27, 29, 165, 166, 167, 168, 169, 175, 176, 177, 178, 179, 152, 153, 154, 155, 156, 22, 157, 158, 159, 160, 161, 162, 163, 164, 65, 136, 137, 138, 139, 144, 145, 146, 147, 56, 61, 148, 396, 397, 398, 399, 400, 401, 402, 403, 84, 85, 86, 87, 93, 94, 95, 96, 97, 98, 99, 100, 101, 102, 103, 104, 105, 106, 107, 108, 109, 110, 111, 112, 432, 433, 434, 435, 452, 453, 454, 455, 456, 457, 458, 459, 460, 461, 462, 463, 436, 437, 438, 439, 440, 441, 442, 443] (by decide +kernel) (by decide +kernel)) (goodIn_sub (fun _ h => List.mem_append_left _ (List.mem_append_right _ h)) (by decide +kernel))
set_option maxRecDepth 20000 in
theorem gL_law_L_areMembers : GoodIn wsL_law (va_wsS RL 192 yL_areMembers wsL_areMembers) := goodIn_app (goodIn_of _ (by decide +kernel)) ggL_law_L_areMembers
theorem dL_law_0 : decode cL_law 0 = .ok (.new 10, 3) := by decide +kernel
theorem dL_law_3 : decode cL_law 3 = .ok (.dup, 1) := by decide +kernel
theorem dL_law_4 : decode cL_law 4 = .ok (.invokespecial 179, 3) := by decide +kernel
theorem dL_law_7 : decode cL_law 7 = .ok (.astore_n 1, 1) := by decide +kernel
theorem dL_law_8 : decode cL_law 8 = .ok (.bipush 64, 2) := by decide +kernel
theorem dL_law_10 : decode cL_law 10 = .ok (.newarray .int, 2) := by decide +kernel
theorem dL_law_12 : decode cL_law 12 = .ok (.astore_n 2, 1) := by decide +kernel
theorem dL_law_13 : decode cL_law 13 = .ok (.bipush 64, 2) := by decide +kernel
theorem dL_law_15 : decode cL_law 15 = .ok (.newarray .int, 2) := by decide +kernel
theorem dL_law_17 : decode cL_law 17 = .ok (.astore_n 3, 1) := by decide +kernel
theorem dL_law_18 : decode cL_law 18 = .ok (.bipush 64, 2) := by decide +kernel
theorem dL_law_20 : decode cL_law 20 = .ok (.newarray .int, 2) := by decide +kernel
theorem dL_law_22 : decode cL_law 22 = .ok (.astore 4, 2) := by decide +kernel
theorem dL_law_24 : decode cL_law 24 = .ok (.bipush 64, 2) := by decide +kernel
theorem dL_law_26 : decode cL_law 26 = .ok (.newarray .int, 2) := by decide +kernel
theorem dL_law_28 : decode cL_law 28 = .ok (.astore 5, 2) := by decide +kernel
theorem dL_law_30 : decode cL_law 30 = .ok (.bipush 8, 2) := by decide +kernel
theorem dL_law_32 : decode cL_law 32 = .ok (.newarray .int, 2) := by decide +kernel
theorem dL_law_34 : decode cL_law 34 = .ok (.astore 6, 2) := by decide +kernel
theorem dL_law_36 : decode cL_law 36 = .ok (.iconst 3, 1) := by decide +kernel
theorem dL_law_37 : decode cL_law 37 = .ok (.newarray .int, 2) := by decide +kernel
theorem dL_law_39 : decode cL_law 39 = .ok (.astore 7, 2) := by decide +kernel
theorem dL_law_41 : decode cL_law 41 = .ok (.aload 7, 2) := by decide +kernel
theorem dL_law_43 : decode cL_law 43 = .ok (.iconst 1, 1) := by decide +kernel
theorem dL_law_44 : decode cL_law 44 = .ok (.iconst 3, 1) := by decide +kernel
theorem dL_law_45 : decode cL_law 45 = .ok (.iastore, 1) := by decide +kernel
theorem dL_law_46 : decode cL_law 46 = .ok (.aload 7, 2) := by decide +kernel
theorem dL_law_48 : decode cL_law 48 = .ok (.iconst 2, 1) := by decide +kernel
theorem dL_law_49 : decode cL_law 49 = .ok (.bipush 6, 2) := by decide +kernel
theorem dL_law_51 : decode cL_law 51 = .ok (.iastore, 1) := by decide +kernel
theorem dL_law_52 : decode cL_law 52 = .ok (.iconst 0, 1) := by decide +kernel
theorem dL_law_53 : decode cL_law 53 = .ok (.istore 8, 2) := by decide +kernel
theorem dL_law_55 : decode cL_law 55 = .ok (.iload 8, 2) := by decide +kernel
theorem dL_law_57 : decode cL_law 57 = .ok (.bipush 8, 2) := by decide +kernel
theorem dL_law_59 : decode cL_law 59 = .ok (.if_icmp .ge 84, 3) := by decide +kernel
theorem dL_law_62 : decode cL_law 62 = .ok (.aload_n 2, 1) := by decide +kernel
theorem dL_law_63 : decode cL_law 63 = .ok (.bipush 8, 2) := by decide +kernel
theorem dL_law_65 : decode cL_law 65 = .ok (.iload 8, 2) := by decide +kernel
theorem dL_law_67 : decode cL_law 67 = .ok (.imul, 1) := by decide +kernel
theorem dL_law_68 : decode cL_law 68 = .ok (.bipush 10, 2) := by decide +kernel
theorem dL_law_70 : decode cL_law 70 = .ok (.iastore, 1) := by decide +kernel
theorem dL_law_71 : decode cL_law 71 = .ok (.aload_n 2, 1) := by decide +kernel
theorem dL_law_72 : decode cL_law 72 = .ok (.bipush 8, 2) := by decide +kernel
