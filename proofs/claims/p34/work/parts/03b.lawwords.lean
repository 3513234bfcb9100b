/-! 03b: the words of the law are words of the tables, by their places -/
theorem xsub_ix {big : List Cond} (ws : List Cond) (ps : List Nat) (hp : ws = ps.filterMap (fun i => big[i]?)) : ∀ w ∈ ws, w ∈ big := by
  intro w hw
  rw [hp] at hw
  obtain ⟨i, -, hi⟩ := List.mem_filterMap.mp hw
  exact List.mem_of_getElem? hi
theorem xsub_ap {big a b : List Cond} (ha : ∀ w ∈ a, w ∈ big) (hb : ∀ w ∈ b, w ∈ big) : ∀ w ∈ a ++ b, w ∈ big := fun w h => (List.mem_append.mp h).elim (ha w) (hb w)
set_option maxRecDepth 20000 in
theorem in_wsL_law0_r1 : ∀ w ∈ wsL_law0_r1, w ∈ lw_tbl := xsub_ix _ [27, 28, 16, 76, 29, 30, 31, 32, 33, 34, 35, 36, 17, 175, 77, 78, 19, 176, 118, 119, 20, 177, 178, 37] (by decide +kernel)
set_option maxRecDepth 20000 in
theorem in_wsL_law0_r2 : ∀ w ∈ wsL_law0_r2, w ∈ lw_tbl := xsub_ix _ [38, 39, 40, 44, 46, 48, 50, 52, 53, 55, 57, 41, 42, 18, 43, 79, 80, 81, 82, 84, 86, 88, 90, 92] (by decide +kernel)
set_option maxRecDepth 20000 in
theorem in_wsL_law0_r3 : ∀ w ∈ wsL_law0_r3, w ∈ lw_tbl := xsub_ix _ [94, 96, 117, 98, 83, 121, 122, 123, 126, 128, 130, 124, 132, 134, 136, 138, 140, 142, 144, 146, 148, 587, 588, 15] (by decide +kernel)
set_option maxRecDepth 20000 in
theorem in_wsL_law0_r4 : ∀ w ∈ wsL_law0_r4, w ∈ lw_tbl := (List.forall_mem_cons.mpr ⟨List.mem_of_getElem? (i := 589) rfl, (List.forall_mem_cons.mpr ⟨List.mem_of_getElem? (i := 590) rfl, (List.forall_mem_cons.mpr ⟨List.mem_of_getElem? (i := 591) rfl, (List.forall_mem_cons.mpr ⟨List.mem_of_getElem? (i := 592) rfl, (List.forall_mem_cons.mpr ⟨List.mem_of_getElem? (i := 593) rfl, (List.forall_mem_cons.mpr ⟨List.mem_of_getElem? (i := 594) rfl, (List.forall_mem_cons.mpr ⟨List.mem_of_getElem? (i := 595) rfl, (List.forall_mem_cons.mpr ⟨List.mem_of_getElem? (i := 596) rfl, (List.forall_mem_cons.mpr ⟨List.mem_of_getElem? (i := 597) rfl, (List.forall_mem_cons.mpr ⟨List.mem_of_getElem? (i := 598) rfl, (List.forall_mem_cons.mpr ⟨List.mem_of_getElem? (i := 599) rfl, (List.forall_mem_cons.mpr ⟨List.mem_of_getElem? (i := 600) rfl, (List.forall_mem_cons.mpr ⟨List.mem_of_getElem? (i := 277) rfl, (List.forall_mem_cons.mpr ⟨List.mem_of_getElem? (i := 278) rfl, (List.forall_mem_cons.mpr ⟨List.mem_of_getElem? (i := 279) rfl, (List.forall_mem_cons.mpr ⟨List.mem_of_getElem? (i := 280) rfl, (List.forall_mem_cons.mpr ⟨List.mem_of_getElem? (i := 558) rfl, (List.forall_mem_cons.mpr ⟨List.mem_of_getElem? (i := 559) rfl, (List.forall_mem_cons.mpr ⟨List.mem_of_getElem? (i := 560) rfl, (List.forall_mem_cons.mpr ⟨List.mem_of_getElem? (i := 561) rfl, (List.forall_mem_cons.mpr ⟨List.mem_of_getElem? (i := 149) rfl, (List.forall_mem_cons.mpr ⟨List.mem_of_getElem? (i := 520) rfl, (List.forall_mem_cons.mpr ⟨List.mem_of_getElem? (i := 521) rfl, (List.forall_mem_cons.mpr ⟨List.mem_of_getElem? (i := 522) rfl, (fun _ h => nomatch h)⟩)⟩)⟩)⟩)⟩)⟩)⟩)⟩)⟩)⟩)⟩)⟩)⟩)⟩)⟩)⟩)⟩)⟩)⟩)⟩)⟩)⟩)⟩)⟩)
set_option maxRecDepth 20000 in
theorem in_wsL_law0_r5 : ∀ w ∈ wsL_law0_r5, w ∈ lw_tbl := xsub_ix _ [523, 524, 525, 526, 527, 528, 530, 14, 531, 532, 533, 534, 535, 536, 537, 538, 539, 188, 189, 190, 191, 49, 192, 193] (by decide +kernel)
set_option maxRecDepth 20000 in
theorem in_wsL_law0_r6 : ∀ w ∈ wsL_law0_r6, w ∈ lw_tbl := xsub_ix _ [194, 195, 196, 197, 198, 24, 273, 274, 275, 276, 87, 583, 584, 585, 586, 97, 504, 505, 506, 507, 269, 270, 271, 272] (by decide +kernel)
set_option maxRecDepth 20000 in
theorem in_wsL_law0_r7 : ∀ w ∈ wsL_law0_r7, w ∈ lw_tbl := xsub_ix _ [508, 509, 510, 511, 431, 432, 433, 434, 499, 500, 501, 502, 127, 503, 388, 389, 390, 391, 393, 6, 394, 491, 492, 493] (by decide +kernel)
set_option maxRecDepth 20000 in
theorem in_wsL_law0_r8 : ∀ w ∈ wsL_law0_r8, w ∈ lw_tbl := xsub_ix _ [494, 133, 554, 555, 556, 557, 139, 495, 496, 497, 498, 143, 486, 487, 488, 489, 135, 490, 445, 446, 447, 289, 448, 449] (by decide +kernel)
set_option maxRecDepth 20000 in
theorem in_wsL_law0_r9 : ∀ w ∈ wsL_law0_r9, w ∈ lw_tbl := xsub_ix _ [450, 451, 45, 47, 286, 287, 288, 290, 291, 292, 293, 294, 85, 295, 296, 297, 298, 58, 299, 300, 301, 302, 51, 303] (by decide +kernel)
set_option maxRecDepth 20000 in
theorem in_wsL_law0_r10 : ∀ w ∈ wsL_law0_r10, w ∈ lw_tbl := xsub_ix _ [304, 305, 306, 307, 25, 99, 323, 324, 325, 326, 131, 327, 328, 329, 330, 129, 331, 332, 333, 334, 336, 338, 1, 339] (by decide +kernel)
set_option maxRecDepth 20000 in
theorem in_wsL_law0_r11 : ∀ w ∈ wsL_law0_r11, w ∈ lw_tbl := xsub_ix _ [340, 341, 342, 343, 344, 346, 2, 347, 348, 349, 350, 351, 356, 357, 26, 358, 352, 353, 354, 355, 359, 361, 3, 362] (by decide +kernel)
set_option maxRecDepth 20000 in
theorem in_wsL_law0_r12 : ∀ w ∈ wsL_law0_r12, w ∈ lw_tbl := xsub_ix _ [363, 364, 365, 366, 367, 368, 369, 370, 371, 372, 373, 374, 375, 377, 4, 378, 379, 380, 381, 382, 383, 385, 5, 386] (by decide +kernel)
set_option maxRecDepth 20000 in
theorem in_wsL_law0_r13 : ∀ w ∈ wsL_law0_r13, w ∈ lw_tbl := xsub_ix _ [387, 395, 397, 7, 398, 399, 401, 8, 402, 403, 405, 9, 406, 407, 408, 409, 410, 411, 413, 10, 414, 415, 417, 11] (by decide +kernel)
set_option maxRecDepth 20000 in
theorem in_wsL_law0_r14 : ∀ w ∈ wsL_law0_r14, w ∈ lw_tbl := xsub_ix _ [418, 419, 421, 12, 422, 423, 425, 13, 426, 95, 93, 427, 428, 429, 430, 435, 436, 437, 438, 439, 440, 441, 442, 443] (by decide +kernel)
set_option maxRecDepth 20000 in
theorem in_wsL_law0_r15 : ∀ w ∈ wsL_law0_r15, w ∈ lw_tbl := xsub_ix _ [444, 452, 453, 454, 455, 456, 457, 458, 89, 91, 459, 460, 461, 462, 463, 464, 465, 145, 147, 466, 467, 468, 469, 470] (by decide +kernel)
set_option maxRecDepth 20000 in
theorem in_wsL_law0_r16 : ∀ w ∈ wsL_law0_r16, w ∈ lw_tbl := xsub_ix _ [471, 472, 474, 475, 476, 477, 478, 479, 480, 141, 482, 601, 602, 603, 565, 566, 567, 568, 569, 570, 571, 572, 265, 266] (by decide +kernel)
set_option maxRecDepth 20000 in
theorem in_wsL_law0_r17 : ∀ w ∈ wsL_law0_r17, w ∈ lw_tbl := xsub_ix _ [267, 268, 546, 547, 548, 549, 54, 550, 551, 552, 553, 56, 512, 513, 514, 515, 516, 517, 518, 519, 576, 577, 578, 579] (by decide +kernel)
set_option maxRecDepth 20000 in
theorem in_wsL_law0_r18 : ∀ w ∈ wsL_law0_r18, w ∈ lw_tbl := (List.forall_mem_cons.mpr ⟨List.mem_of_getElem? (i := 137) rfl, (List.forall_mem_cons.mpr ⟨List.mem_of_getElem? (i := 281) rfl, (List.forall_mem_cons.mpr ⟨List.mem_of_getElem? (i := 282) rfl, (List.forall_mem_cons.mpr ⟨List.mem_of_getElem? (i := 283) rfl, (List.forall_mem_cons.mpr ⟨List.mem_of_getElem? (i := 284) rfl, (List.forall_mem_cons.mpr ⟨List.mem_of_getElem? (i := 285) rfl, (List.forall_mem_cons.mpr ⟨List.mem_of_getElem? (i := 540) rfl, (List.forall_mem_cons.mpr ⟨List.mem_of_getElem? (i := 541) rfl, (List.forall_mem_cons.mpr ⟨List.mem_of_getElem? (i := 542) rfl, (List.forall_mem_cons.mpr ⟨List.mem_of_getElem? (i := 543) rfl, (List.forall_mem_cons.mpr ⟨List.mem_of_getElem? (i := 544) rfl, (List.forall_mem_cons.mpr ⟨List.mem_of_getElem? (i := 545) rfl, (List.forall_mem_cons.mpr ⟨List.mem_of_getElem? (i := 562) rfl, (List.forall_mem_cons.mpr ⟨List.mem_of_getElem? (i := 563) rfl, (List.forall_mem_cons.mpr ⟨List.mem_of_getElem? (i := 564) rfl, (List.forall_mem_cons.mpr ⟨List.mem_of_getElem? (i := 573) rfl, (List.forall_mem_cons.mpr ⟨List.mem_of_getElem? (i := 574) rfl, (List.forall_mem_cons.mpr ⟨List.mem_of_getElem? (i := 575) rfl, (List.forall_mem_cons.mpr ⟨List.mem_of_getElem? (i := 580) rfl, (List.forall_mem_cons.mpr ⟨List.mem_of_getElem? (i := 581) rfl, (List.forall_mem_cons.mpr ⟨List.mem_of_getElem? (i := 582) rfl, (List.forall_mem_cons.mpr ⟨List.mem_of_getElem? (i := 483) rfl, (List.forall_mem_cons.mpr ⟨List.mem_of_getElem? (i := 484) rfl, (List.forall_mem_cons.mpr ⟨List.mem_of_getElem? (i := 485) rfl, (fun _ h => nomatch h)⟩)⟩)⟩)⟩)⟩)⟩)⟩)⟩)⟩)⟩)⟩)⟩)⟩)⟩)⟩)⟩)⟩)⟩)⟩)⟩)⟩)⟩)⟩)⟩)
theorem wsL_law_in0 : ∀ w ∈ wsL_law0, w ∈ lw_tbl := (xsub_ap (xsub_ap (xsub_ap (xsub_ap (xsub_ap (xsub_ap in_wsL_law0_r1 (xsub_ap in_wsL_law0_r2 (xsub_ap in_wsL_law0_r3 (xsub_ap in_wsL_law0_r4 (xsub_ap in_wsL_law0_r5 (xsub_ap in_wsL_law0_r6 (xsub_ap in_wsL_law0_r7 (xsub_ap in_wsL_law0_r8 (xsub_ap in_wsL_law0_r9 (xsub_ap in_wsL_law0_r10 (xsub_ap in_wsL_law0_r11 (xsub_ap in_wsL_law0_r12 (xsub_ap in_wsL_law0_r13 (xsub_ap in_wsL_law0_r14 (xsub_ap in_wsL_law0_r15 (xsub_ap in_wsL_law0_r16 (xsub_ap in_wsL_law0_r17 in_wsL_law0_r18))))))))))))))))) (by decide +kernel)) (by decide +kernel)) (by decide +kernel)) (by decide +kernel)) (fun _ h => nomatch h))
theorem wsL_law_x0 : ∀ w ∈ (vx_atS RX3 217 "java/lang/IllegalArgumentException" ["java/lang/RuntimeException", "java/lang/Exception"]).filter goodWord, w ∈ lw_tbl := by decide +kernel
theorem wsL_law_x1 : ∀ w ∈ (vx_atS RX3 94 "java/lang/IllegalStateException" ["java/lang/RuntimeException", "java/lang/Exception"]).filter goodWord, w ∈ lw_tbl := by decide +kernel
theorem wsL_law_in : ∀ w ∈ wsL_law, w ∈ lw_tbl := fun w h => (List.mem_append.mp h).elim (fun h => (List.mem_append.mp h).elim (fun h => wsL_law_in0 w h) (fun h => wsL_law_x0 w h)) (fun h => wsL_law_x1 w h)
theorem inlX0 : ∀ w ∈ wsX00, w ∈ wsL_law := fun _ h => List.mem_append_left _ (List.mem_append_left _ (List.mem_append_left _ (List.mem_append_left _ (List.mem_append_right _ h))))
theorem inX0 : ∀ w ∈ wsX00, w ∈ lw_tbl := fun w h => wsL_law_in w (inlX0 w h)
theorem inlX1 : ∀ w ∈ wsX10, w ∈ wsL_law := fun _ h => List.mem_append_left _ (List.mem_append_left _ (List.mem_append_left _ (List.mem_append_right _ h)))
theorem inX1 : ∀ w ∈ wsX10, w ∈ lw_tbl := fun w h => wsL_law_in w (inlX1 w h)
theorem inlX2 : ∀ w ∈ wsX20, w ∈ wsL_law := fun _ h => List.mem_append_left _ (List.mem_append_left _ (List.mem_append_left _ (List.mem_append_left _ (List.mem_append_left _ (List.mem_append_right _ h)))))
theorem inX2 : ∀ w ∈ wsX20, w ∈ lw_tbl := fun w h => wsL_law_in w (inlX2 w h)
theorem inlX3 : ∀ w ∈ wsX30, w ∈ wsL_law := fun _ h => List.mem_append_left _ (List.mem_append_left _ (List.mem_append_left _ (List.mem_append_left _ (List.mem_append_left _ (List.mem_append_left _ (List.mem_append_right _ h))))))
theorem inX3 : ∀ w ∈ wsX30, w ∈ lw_tbl := fun w h => wsL_law_in w (inlX3 w h)
theorem inX4 : ∀ w ∈ wsX40, w ∈ lw_tbl := by decide +kernel
theorem inJx145de : ∀ w ∈ wsJx145de0, w ∈ lw_tbl := by decide +kernel
theorem inJ9 : ∀ w ∈ wsJ90, w ∈ lw_tbl := by decide +kernel
theorem inJ0 : ∀ w ∈ wsJ00, w ∈ lw_tbl := by decide +kernel
theorem inJ7 : ∀ w ∈ wsJ70, w ∈ lw_tbl := by decide +kernel
