/-! 03b: the words of the law are words of the tables, by their places -/
theorem xsub_ix {big : List Cond} (ws : List Cond) (ps : List Nat) (hp : ws = ps.filterMap (fun i => big[i]?)) : ∀ w ∈ ws, w ∈ big := by
  intro w hw
  rw [hp] at hw
  obtain ⟨i, -, hi⟩ := List.mem_filterMap.mp hw
  exact List.mem_of_getElem? hi
theorem xsub_ap {big a b : List Cond} (ha : ∀ w ∈ a, w ∈ big) (hb : ∀ w ∈ b, w ∈ big) : ∀ w ∈ a ++ b, w ∈ big := fun w h => (List.mem_append.mp h).elim (ha w) (hb w)
set_option maxRecDepth 20000 in
theorem in_wsL_law0_r1 : ∀ w ∈ wsL_law0_r1, w ∈ lw_tbl := xsub_ix _ [45, 46, 33, 645, 646, 38, 947, 47, 48, 49, 50, 51, 52, 53, 54, 34, 193, 95, 96, 36, 194, 136, 137, 37] (by decide +kernel)
set_option maxRecDepth 20000 in
theorem in_wsL_law0_r2 : ∀ w ∈ wsL_law0_r2, w ∈ lw_tbl := xsub_ix _ [195, 196, 55, 56, 57, 58, 94, 62, 64, 66, 68, 70, 71, 73, 75, 59, 60, 35, 61, 97, 98, 99, 100, 102] (by decide +kernel)
set_option maxRecDepth 20000 in
theorem in_wsL_law0_r3 : ∀ w ∈ wsL_law0_r3, w ∈ lw_tbl := xsub_ix _ [104, 106, 108, 110, 112, 114, 135, 116, 101, 139, 140, 141, 144, 146, 148, 142, 150, 152, 154, 156, 158, 160, 162, 164] (by decide +kernel)
set_option maxRecDepth 20000 in
theorem in_wsL_law0_r4 : ∀ w ∈ wsL_law0_r4, w ∈ lw_tbl := xsub_ix _ [166, 647, 648, 649, 650, 651, 652, 653, 654, 655, 656, 657, 658, 659, 661, 662, 663, 664, 665, 666, 667, 668, 669, 670] (by decide +kernel)
set_option maxRecDepth 20000 in
theorem in_wsL_law0_r5 : ∀ w ∈ wsL_law0_r5, w ∈ lw_tbl := xsub_ix _ [671, 672, 673, 674, 675, 676, 677, 234, 235, 32, 236, 237, 238, 239, 240, 241, 63, 65, 242, 243, 244, 245, 246, 247] (by decide +kernel)
set_option maxRecDepth 20000 in
theorem in_wsL_law0_r6 : ∀ w ∈ wsL_law0_r6, w ∈ lw_tbl := xsub_ix _ [248, 42, 746, 747, 748, 749, 750, 751, 752, 753, 754, 755, 756, 758, 15, 759, 680, 742, 743, 744, 745, 315, 316, 317] (by decide +kernel)
set_option maxRecDepth 20000 in
theorem in_wsL_law0_r7 : ∀ w ∈ wsL_law0_r7, w ∈ lw_tbl := xsub_ix _ [318, 319, 320, 321, 103, 760, 761, 762, 763, 322, 323, 324, 325, 326, 327, 328, 76, 764, 765, 766, 767, 660, 329, 330] (by decide +kernel)
set_option maxRecDepth 20000 in
theorem in_wsL_law0_r8 : ∀ w ∈ wsL_law0_r8, w ∈ lw_tbl := xsub_ix _ [331, 332, 333, 334, 335, 69, 768, 769, 770, 771, 336, 337, 338, 339, 340, 341, 342, 67, 772, 773, 774, 775, 776, 778] (by decide +kernel)
set_option maxRecDepth 20000 in
theorem in_wsL_law0_r9 : ∀ w ∈ wsL_law0_r9, w ∈ lw_tbl := xsub_ix _ [16, 779, 343, 344, 345, 346, 347, 348, 349, 350, 351, 352, 353, 780, 781, 782, 783, 354, 355, 356, 357, 358, 359, 360] (by decide +kernel)
set_option maxRecDepth 20000 in
theorem in_wsL_law0_r10 : ∀ w ∈ wsL_law0_r10, w ∈ lw_tbl := xsub_ix _ [361, 362, 363, 364, 784, 785, 786, 787, 788, 790, 17, 791, 365, 366, 367, 368, 369, 370, 371, 72, 792, 793, 794, 795] (by decide +kernel)
set_option maxRecDepth 20000 in
theorem in_wsL_law0_r11 : ∀ w ∈ wsL_law0_r11, w ∈ lw_tbl := xsub_ix _ [372, 373, 374, 375, 376, 377, 378, 74, 796, 797, 798, 799, 379, 380, 381, 382, 383, 384, 385, 107, 109, 111, 113, 800] (by decide +kernel)
set_option maxRecDepth 20000 in
theorem in_wsL_law0_r12 : ∀ w ∈ wsL_law0_r12, w ∈ lw_tbl := xsub_ix _ [801, 802, 803, 386, 387, 388, 389, 390, 391, 392, 393, 394, 43, 117, 105, 804, 805, 806, 807, 410, 411, 412, 413, 414] (by decide +kernel)
set_option maxRecDepth 20000 in
theorem in_wsL_law0_r13 : ∀ w ∈ wsL_law0_r13, w ∈ lw_tbl := xsub_ix _ [415, 416, 808, 809, 810, 811, 417, 418, 419, 420, 421, 422, 423, 115, 812, 813, 814, 815, 424, 425, 426, 427, 428, 429] (by decide +kernel)
set_option maxRecDepth 20000 in
theorem in_wsL_law0_r14 : ∀ w ∈ wsL_law0_r14, w ∈ lw_tbl := xsub_ix _ [430, 145, 816, 817, 818, 819, 432, 433, 434, 435, 436, 437, 438, 159, 440, 820, 821, 822, 823, 679, 824, 825, 826, 441] (by decide +kernel)
set_option maxRecDepth 20000 in
theorem in_wsL_law0_r15 : ∀ w ∈ wsL_law0_r15, w ∈ lw_tbl := xsub_ix _ [442, 443, 444, 445, 446, 447, 149, 827, 828, 829, 830, 448, 449, 450, 451, 452, 453, 454, 147, 831, 832, 833, 834, 455] (by decide +kernel)
set_option maxRecDepth 20000 in
theorem in_wsL_law0_r16 : ∀ w ∈ wsL_law0_r16, w ∈ lw_tbl := xsub_ix _ [456, 457, 458, 459, 460, 461, 163, 165, 835, 836, 837, 838, 462, 463, 464, 465, 466, 467, 468, 153, 469, 470, 471, 472] (by decide +kernel)
set_option maxRecDepth 20000 in
theorem in_wsL_law0_r17 : ∀ w ∈ wsL_law0_r17, w ∈ lw_tbl := xsub_ix _ [839, 840, 841, 842, 843, 845, 18, 846, 847, 849, 19, 850, 473, 474, 475, 476, 477, 478, 479, 151, 851, 852, 853, 854] (by decide +kernel)
set_option maxRecDepth 20000 in
theorem in_wsL_law0_r18 : ∀ w ∈ wsL_law0_r18, w ∈ lw_tbl := xsub_ix _ [480, 481, 482, 483, 484, 485, 486, 155, 855, 856, 857, 858, 859, 861, 20, 862, 487, 488, 489, 490, 491, 492, 493, 157] (by decide +kernel)
set_option maxRecDepth 20000 in
theorem in_wsL_law0_r19 : ∀ w ∈ wsL_law0_r19, w ∈ lw_tbl := xsub_ix _ [863, 864, 865, 866, 494, 495, 496, 497, 498, 499, 500, 161, 867, 868, 869, 870, 501, 502, 503, 504, 505, 506, 507, 508] (by decide +kernel)
set_option maxRecDepth 20000 in
theorem in_wsL_law0_r20 : ∀ w ∈ wsL_law0_r20, w ∈ lw_tbl := xsub_ix _ [509, 510, 511, 512, 514, 2, 515, 871, 872, 873, 874, 875, 877, 21, 878, 879, 881, 22, 882, 516, 517, 518, 519, 520] (by decide +kernel)
set_option maxRecDepth 20000 in
theorem in_wsL_law0_r21 : ∀ w ∈ wsL_law0_r21, w ∈ lw_tbl := xsub_ix _ [521, 522, 523, 524, 525, 526, 883, 884, 885, 886, 527, 528, 529, 530, 531, 532, 533, 534, 535, 536, 537, 538, 887, 888] (by decide +kernel)
set_option maxRecDepth 20000 in
theorem in_wsL_law0_r22 : ∀ w ∈ wsL_law0_r22, w ∈ lw_tbl := xsub_ix _ [889, 890, 206, 207, 208, 209, 210, 211, 212, 213, 214, 216, 0, 217, 891, 892, 893, 894, 218, 219, 220, 221, 222, 223] (by decide +kernel)
set_option maxRecDepth 20000 in
theorem in_wsL_law0_r23 : ∀ w ∈ wsL_law0_r23, w ∈ lw_tbl := xsub_ix _ [224, 225, 895, 896, 897, 898, 226, 227, 228, 229, 167, 899, 900, 901, 902, 678, 539, 540, 541, 542, 543, 544, 545, 547] (by decide +kernel)
set_option maxRecDepth 20000 in
theorem in_wsL_law0_r24 : ∀ w ∈ wsL_law0_r24, w ∈ lw_tbl := xsub_ix _ [549, 3, 550, 551, 552, 553, 554, 555, 557, 4, 558, 559, 560, 561, 562, 567, 568, 44, 569, 563, 564, 565, 566, 570] (by decide +kernel)
set_option maxRecDepth 20000 in
theorem in_wsL_law0_r25 : ∀ w ∈ wsL_law0_r25, w ∈ lw_tbl := xsub_ix _ [572, 5, 573, 574, 575, 576, 577, 578, 579, 580, 581, 582, 583, 584, 585, 586, 588, 6, 589, 590, 591, 592, 593, 594] (by decide +kernel)
set_option maxRecDepth 20000 in
theorem in_wsL_law0_r26 : ∀ w ∈ wsL_law0_r26, w ∈ lw_tbl := xsub_ix _ [596, 7, 597, 598, 599, 601, 8, 602, 603, 605, 9, 606, 607, 609, 10, 610, 611, 612, 613, 614, 615, 617, 11, 618] (by decide +kernel)
set_option maxRecDepth 20000 in
theorem in_wsL_law0_r27 : ∀ w ∈ wsL_law0_r27, w ∈ lw_tbl := xsub_ix _ [619, 621, 12, 622, 623, 625, 13, 626, 627, 629, 14, 630, 631, 632, 633, 634, 635, 636, 637, 638, 639, 640, 641, 642] (by decide +kernel)
set_option maxRecDepth 20000 in
theorem in_wsL_law0_r28 : ∀ w ∈ wsL_law0_r28, w ∈ lw_tbl := xsub_ix _ [643, 644, 903, 904, 905, 906, 907, 909, 23, 910, 911, 913, 24, 914, 915, 917, 25, 918, 919, 921, 26, 922, 923, 925] (by decide +kernel)
set_option maxRecDepth 20000 in
theorem in_wsL_law0_r29 : ∀ w ∈ wsL_law0_r29, w ∈ lw_tbl := xsub_ix _ [27, 926, 927, 929, 28, 930, 931, 933, 29, 934, 935, 937, 30, 938, 939, 941, 31, 942, 230, 231, 232, 233, 943, 944] (by decide +kernel)
set_option maxRecDepth 20000 in
theorem in_wsL_law0_r30 : ∀ w ∈ wsL_law0_r30, w ∈ lw_tbl := xsub_ix _ [945, 946] (by decide +kernel)
theorem wsL_law_in0 : ∀ w ∈ wsL_law0, w ∈ lw_tbl := (xsub_ap (xsub_ap (xsub_ap (xsub_ap (xsub_ap (xsub_ap (xsub_ap in_wsL_law0_r1 (xsub_ap in_wsL_law0_r2 (xsub_ap in_wsL_law0_r3 (xsub_ap in_wsL_law0_r4 (xsub_ap in_wsL_law0_r5 (xsub_ap in_wsL_law0_r6 (xsub_ap in_wsL_law0_r7 (xsub_ap in_wsL_law0_r8 (xsub_ap in_wsL_law0_r9 (xsub_ap in_wsL_law0_r10 (xsub_ap in_wsL_law0_r11 (xsub_ap in_wsL_law0_r12 (xsub_ap in_wsL_law0_r13 (xsub_ap in_wsL_law0_r14 (xsub_ap in_wsL_law0_r15 (xsub_ap in_wsL_law0_r16 (xsub_ap in_wsL_law0_r17 (xsub_ap in_wsL_law0_r18 (xsub_ap in_wsL_law0_r19 (xsub_ap in_wsL_law0_r20 (xsub_ap in_wsL_law0_r21 (xsub_ap in_wsL_law0_r22 (xsub_ap in_wsL_law0_r23 (xsub_ap in_wsL_law0_r24 (xsub_ap in_wsL_law0_r25 (xsub_ap in_wsL_law0_r26 (xsub_ap in_wsL_law0_r27 (xsub_ap in_wsL_law0_r28 (xsub_ap in_wsL_law0_r29 in_wsL_law0_r30))))))))))))))))))))))))))))) (by decide +kernel)) (by decide +kernel)) (by decide +kernel)) (by decide +kernel)) (by decide +kernel)) (fun _ h => nomatch h))
theorem wsL_law_x0 : ∀ w ∈ (vx_atS RX3 217 "java/lang/IllegalArgumentException" ["java/lang/RuntimeException", "java/lang/Exception"]).filter goodWord, w ∈ lw_tbl := by decide +kernel
theorem wsL_law_x1 : ∀ w ∈ (vx_atS RX3 94 "java/lang/IllegalStateException" ["java/lang/RuntimeException", "java/lang/Exception"]).filter goodWord, w ∈ lw_tbl := by decide +kernel
theorem wsL_law_in : ∀ w ∈ wsL_law, w ∈ lw_tbl := fun w h => (List.mem_append.mp h).elim (fun h => (List.mem_append.mp h).elim (fun h => wsL_law_in0 w h) (fun h => wsL_law_x0 w h)) (fun h => wsL_law_x1 w h)
theorem inlX0 : ∀ w ∈ wsX00, w ∈ wsL_law := fun _ h => List.mem_append_left _ (List.mem_append_left _ (List.mem_append_left _ (List.mem_append_left _ (List.mem_append_right _ h))))
theorem inX0 : ∀ w ∈ wsX00, w ∈ lw_tbl := fun w h => wsL_law_in w (inlX0 w h)
theorem inlX1 : ∀ w ∈ wsX10, w ∈ wsL_law := fun _ h => List.mem_append_left _ (List.mem_append_left _ (List.mem_append_left _ (List.mem_append_right _ h)))
theorem inX1 : ∀ w ∈ wsX10, w ∈ lw_tbl := fun w h => wsL_law_in w (inlX1 w h)
theorem inlX2 : ∀ w ∈ wsX20, w ∈ wsL_law := fun _ h => List.mem_append_left _ (List.mem_append_left _ (List.mem_append_left _ (List.mem_append_left _ (List.mem_append_left _ (List.mem_append_right _ h)))))
theorem inX2 : ∀ w ∈ wsX20, w ∈ lw_tbl := fun w h => wsL_law_in w (inlX2 w h)
theorem inlX3 : ∀ w ∈ wsX30, w ∈ wsL_law := fun _ h => List.mem_append_left _ (List.mem_append_left _ (List.mem_append_left _ (List.mem_append_left _ (List.mem_append_left _ (List.mem_append_left _ (List.mem_append_left _ (List.mem_append_right _ h)))))))
theorem inX3 : ∀ w ∈ wsX30, w ∈ lw_tbl := fun w h => wsL_law_in w (inlX3 w h)
theorem inlX4 : ∀ w ∈ wsX40, w ∈ wsL_law := fun _ h => List.mem_append_left _ (List.mem_append_left _ (List.mem_append_left _ (List.mem_append_left _ (List.mem_append_left _ (List.mem_append_left _ (List.mem_append_right _ h))))))
theorem inX4 : ∀ w ∈ wsX40, w ∈ lw_tbl := fun w h => wsL_law_in w (inlX4 w h)
theorem inJx145de : ∀ w ∈ wsJx145de0, w ∈ lw_tbl := by decide +kernel
theorem inJ9 : ∀ w ∈ wsJ90, w ∈ lw_tbl := by decide +kernel
theorem inJ0 : ∀ w ∈ wsJ00, w ∈ lw_tbl := by decide +kernel
theorem inJ7 : ∀ w ∈ wsJ70, w ∈ lw_tbl := by decide +kernel
