theorem xw_ps {big : List Cond} (ws : List Cond) (ps : List Nat) (hp : ps.filterMap (fun i => big[i]?) = ws) : ∀ w ∈ ws, w ∈ big := by
  intro w hw
  rw [← hp] at hw
  obtain ⟨i, -, hi⟩ := List.mem_filterMap.mp hw
  exact List.mem_of_getElem? hi
set_option maxRecDepth 20000 in
theorem xw_wsL_law0_r1 : ∀ w ∈ wsL_law0_r1, w ∈ lw_tbl := xw_ps _ [47, 48, 33, 632, 633, 37, 187, 49, 50, 51, 52, 53, 54, 55, 56, 34, 188, 84, 85, 35, 189, 141, 142, 36] rfl
set_option maxRecDepth 20000 in
theorem xw_wsL_law0_r2 : ∀ w ∈ wsL_law0_r2, w ∈ lw_tbl := xw_ps _ [190, 191, 192, 193, 194, 58, 59, 60, 83, 61, 63, 65, 67, 69, 87, 88, 89, 90, 92, 94, 96, 97, 98, 99] rfl
set_option maxRecDepth 20000 in
theorem xw_wsL_law0_r3 : ∀ w ∈ wsL_law0_r3, w ∈ lw_tbl := xw_ps _ [100, 101, 103, 104, 105, 106, 109, 144, 145, 146, 147, 149, 151, 152, 154, 156, 158, 160, 162, 164, 634, 635, 636, 637] rfl
set_option maxRecDepth 20000 in
theorem xw_wsL_law0_r4 : ∀ w ∈ wsL_law0_r4, w ∈ lw_tbl := xw_ps _ [640, 641, 642, 643, 646, 647, 648, 649, 653, 654, 655, 656, 657, 658, 659, 660, 661, 662, 663, 750, 664, 665, 666, 668] rfl
set_option maxRecDepth 20000 in
theorem xw_wsL_law0_r5 : ∀ w ∈ wsL_law0_r5, w ∈ lw_tbl := xw_ps _ [669, 670, 671, 672, 673, 674, 214, 215, 32, 216, 217, 218, 219, 220, 221, 222, 230, 41, 300, 42, 229, 71, 223, 224] rfl
set_option maxRecDepth 20000 in
theorem xw_wsL_law0_r6 : ∀ w ∈ wsL_law0_r6, w ∈ lw_tbl := xw_ps _ [225, 226, 227, 228, 316, 317, 318, 319, 755, 756, 757, 758, 765, 639, 638, 651, 759, 760, 761, 762, 763, 764, 751, 752] rfl
set_option maxRecDepth 20000 in
theorem xw_wsL_law0_r7 : ∀ w ∈ wsL_law0_r7, w ∈ lw_tbl := xw_ps _ [753, 754, 320, 321, 322, 323, 324, 325, 326, 766, 767, 768, 769, 328, 329, 330, 331, 332, 333, 334, 770, 771, 772, 773] rfl
set_option maxRecDepth 20000 in
theorem xw_wsL_law0_r8 : ∀ w ∈ wsL_law0_r8, w ∈ lw_tbl := xw_ps _ [644, 645, 336, 337, 338, 339, 340, 341, 342, 153, 155, 774, 775, 776, 777, 344, 345, 346, 347, 348, 349, 350, 351, 157] rfl
set_option maxRecDepth 20000 in
theorem xw_wsL_law0_r9 : ∀ w ∈ wsL_law0_r9, w ∈ lw_tbl := xw_ps _ [159, 161, 778, 779, 780, 781, 782, 650, 210, 211, 212, 213, 783, 784, 785, 786, 353, 354, 355, 356, 357, 358, 359, 360] rfl
set_option maxRecDepth 20000 in
theorem xw_wsL_law0_r10 : ∀ w ∈ wsL_law0_r10, w ∈ lw_tbl := xw_ps _ [362, 43, 111, 378, 379, 380, 381, 70, 62, 64, 383, 384, 386, 387, 388, 389, 390, 391, 392, 394, 1, 395, 396, 397] rfl
set_option maxRecDepth 20000 in
theorem xw_wsL_law0_r11 : ∀ w ∈ wsL_law0_r11, w ∈ lw_tbl := xw_ps _ [399, 2, 400, 404, 405, 44, 406, 401, 402, 403, 407, 409, 3, 410, 415, 416, 417, 411, 413, 4, 414, 418, 419, 420] rfl
set_option maxRecDepth 20000 in
theorem xw_wsL_law0_r12 : ∀ w ∈ wsL_law0_r12, w ∈ lw_tbl := xw_ps _ [421, 422, 423, 424, 425, 427, 5, 428, 429, 430, 431, 432, 433, 434, 435, 436, 437, 438, 443, 444, 445, 439, 441, 6] rfl
set_option maxRecDepth 20000 in
theorem xw_wsL_law0_r13 : ∀ w ∈ wsL_law0_r13, w ∈ lw_tbl := xw_ps _ [442, 787, 788, 789, 790, 652, 791, 793, 16, 794, 795, 797, 17, 798, 799, 801, 18, 802, 667, 803, 805, 19, 806, 807] rfl
set_option maxRecDepth 20000 in
theorem xw_wsL_law0_r14 : ∀ w ∈ wsL_law0_r14, w ∈ lw_tbl := xw_ps _ [809, 20, 810, 811, 813, 21, 814, 815, 817, 22, 818, 819, 821, 23, 822, 823, 824, 825, 826, 827, 828, 829, 830, 831] rfl
set_option maxRecDepth 20000 in
theorem xw_wsL_law0_r15 : ∀ w ∈ wsL_law0_r15, w ∈ lw_tbl := xw_ps _ [832, 834, 24, 835, 836, 838, 25, 839, 840, 841, 842, 446, 447, 448, 449, 450, 451, 452, 453, 454, 475, 46, 455, 457] rfl
set_option maxRecDepth 20000 in
theorem xw_wsL_law0_r16 : ∀ w ∈ wsL_law0_r16, w ∈ lw_tbl := xw_ps _ [7, 458, 459, 45, 491, 492, 493, 494, 843, 844, 845, 846, 847, 849, 26, 850, 495, 496, 497, 498, 499, 500, 501, 502] rfl
set_option maxRecDepth 20000 in
theorem xw_wsL_law0_r17 : ∀ w ∈ wsL_law0_r17, w ∈ lw_tbl := xw_ps _ [503, 504, 505, 851, 852, 853, 854, 506, 507, 508, 509, 510, 511, 512, 513, 515, 8, 516, 108, 518, 519, 520, 521, 855] rfl
set_option maxRecDepth 20000 in
theorem xw_wsL_law0_r18 : ∀ w ∈ wsL_law0_r18, w ∈ lw_tbl := xw_ps _ [856, 857, 858, 522, 523, 524, 525, 526, 527, 528, 530, 531, 532, 533, 859, 860, 861, 862, 534, 535, 536, 537, 538, 539] rfl
set_option maxRecDepth 20000 in
theorem xw_wsL_law0_r19 : ∀ w ∈ wsL_law0_r19, w ∈ lw_tbl := xw_ps _ [540, 863, 864, 865, 866, 867, 869, 27, 870, 541, 542, 543, 544, 545, 546, 547, 150, 148, 549, 550, 551, 552, 107, 110] rfl
set_option maxRecDepth 20000 in
theorem xw_wsL_law0_r20 : ∀ w ∈ wsL_law0_r20, w ∈ lw_tbl := xw_ps _ [553, 555, 9, 556, 557, 66, 558, 68, 559, 560, 562, 10, 563, 91, 93, 577, 578, 579, 564, 566, 11, 567, 102, 568] rfl
set_option maxRecDepth 20000 in
theorem xw_wsL_law0_r21 : ∀ w ∈ wsL_law0_r21, w ∈ lw_tbl := xw_ps _ [570, 12, 571, 572, 574, 13, 575, 576, 580, 582, 14, 583, 871, 872, 873, 874, 875, 877, 28, 878, 879, 584, 585, 586] rfl
set_option maxRecDepth 20000 in
theorem xw_wsL_law0_r22 : ∀ w ∈ wsL_law0_r22, w ∈ lw_tbl := xw_ps _ [587, 588, 589, 590, 591, 592, 593, 594, 95, 880, 881, 882, 883, 884, 886, 29, 887, 888, 595, 596, 597, 598, 599, 600] rfl
set_option maxRecDepth 20000 in
theorem xw_wsL_law0_r23 : ∀ w ∈ wsL_law0_r23, w ∈ lw_tbl := xw_ps _ [601, 602, 603, 604, 605, 889, 890, 891, 892, 893, 895, 30, 896, 897, 606, 607, 608, 609, 610, 611, 612, 163, 613, 614] rfl
set_option maxRecDepth 20000 in
theorem xw_wsL_law0_r24 : ∀ w ∈ wsL_law0_r24, w ∈ lw_tbl := xw_ps _ [615, 616, 617, 618, 619, 620, 621, 623, 15, 624, 898, 899, 900, 901, 902, 904, 31, 905, 625, 626, 627, 628, 629, 630] rfl
set_option maxRecDepth 20000 in
theorem xw_wsL_law0_r25 : ∀ w ∈ wsL_law0_r25, w ∈ lw_tbl := xw_ps _ [631, 165, 906, 907, 908, 909] rfl
theorem xi0 : ∀ w ∈ wsX00, w ∈ lw_tbl := by decide +kernel
theorem xi1 : ∀ w ∈ wsX10, w ∈ lw_tbl := by decide +kernel
theorem xi2 : ∀ w ∈ wsX20, w ∈ lw_tbl := by decide +kernel
theorem xi3 : ∀ w ∈ wsX30, w ∈ lw_tbl := by decide +kernel
theorem xi4 : ∀ w ∈ wsX40, w ∈ lw_tbl := by decide +kernel
theorem wsL_law_in0 : ∀ w ∈ wsL_law0, w ∈ lw_tbl := fun w h => (List.mem_append.mp h).elim (fun h => (List.mem_append.mp h).elim (fun h => (List.mem_append.mp h).elim (fun h => (List.mem_append.mp h).elim (fun h => (List.mem_append.mp h).elim (fun h => (List.mem_append.mp h).elim (fun h => (List.mem_append.mp h).elim (fun h => xw_wsL_law0_r1 w h) (fun h => (List.mem_append.mp h).elim (fun h => xw_wsL_law0_r2 w h) (fun h => (List.mem_append.mp h).elim (fun h => xw_wsL_law0_r3 w h) (fun h => (List.mem_append.mp h).elim (fun h => xw_wsL_law0_r4 w h) (fun h => (List.mem_append.mp h).elim (fun h => xw_wsL_law0_r5 w h) (fun h => (List.mem_append.mp h).elim (fun h => xw_wsL_law0_r6 w h) (fun h => (List.mem_append.mp h).elim (fun h => xw_wsL_law0_r7 w h) (fun h => (List.mem_append.mp h).elim (fun h => xw_wsL_law0_r8 w h) (fun h => (List.mem_append.mp h).elim (fun h => xw_wsL_law0_r9 w h) (fun h => (List.mem_append.mp h).elim (fun h => xw_wsL_law0_r10 w h) (fun h => (List.mem_append.mp h).elim (fun h => xw_wsL_law0_r11 w h) (fun h => (List.mem_append.mp h).elim (fun h => xw_wsL_law0_r12 w h) (fun h => (List.mem_append.mp h).elim (fun h => xw_wsL_law0_r13 w h) (fun h => (List.mem_append.mp h).elim (fun h => xw_wsL_law0_r14 w h) (fun h => (List.mem_append.mp h).elim (fun h => xw_wsL_law0_r15 w h) (fun h => (List.mem_append.mp h).elim (fun h => xw_wsL_law0_r16 w h) (fun h => (List.mem_append.mp h).elim (fun h => xw_wsL_law0_r17 w h) (fun h => (List.mem_append.mp h).elim (fun h => xw_wsL_law0_r18 w h) (fun h => (List.mem_append.mp h).elim (fun h => xw_wsL_law0_r19 w h) (fun h => (List.mem_append.mp h).elim (fun h => xw_wsL_law0_r20 w h) (fun h => (List.mem_append.mp h).elim (fun h => xw_wsL_law0_r21 w h) (fun h => (List.mem_append.mp h).elim (fun h => xw_wsL_law0_r22 w h) (fun h => (List.mem_append.mp h).elim (fun h => xw_wsL_law0_r23 w h) (fun h => (List.mem_append.mp h).elim (fun h => xw_wsL_law0_r24 w h) (fun h => xw_wsL_law0_r25 w h))))))))))))))))))))))))) (fun h => xi3 w h)) (fun h => xi4 w h)) (fun h => xi1 w h)) (fun h => xi2 w h)) (fun h => xi0 w h)) (fun h => absurd h List.not_mem_nil)
theorem wsL_law_x0 : ∀ w ∈ (vx_atS RX3 57 "java/lang/IllegalArgumentException" ["java/lang/RuntimeException", "java/lang/Exception"]).filter goodWord, w ∈ lw_tbl := by decide +kernel
theorem wsL_law_x1 : ∀ w ∈ (vx_atS RX3 67 "java/lang/UnsupportedOperationException" ["java/lang/RuntimeException", "java/lang/Exception"]).filter goodWord, w ∈ lw_tbl := by decide +kernel
theorem wsL_law_x2 : ∀ w ∈ (xn_atS RX3 102).filter goodWord, w ∈ lw_tbl := by decide +kernel
theorem wsL_law_x3 : ∀ w ∈ (vx_atS RX3 134 "java/lang/IndexOutOfBoundsException" ["java/lang/RuntimeException", "java/lang/Exception"]).filter goodWord, w ∈ lw_tbl := by decide +kernel
theorem wsL_law_x4 : ∀ w ∈ (vx_atS RX3 194 "java/lang/IllegalStateException" ["java/lang/RuntimeException", "java/lang/Exception"]).filter goodWord, w ∈ lw_tbl := by decide +kernel
theorem wsL_law_in : ∀ w ∈ wsL_law, w ∈ lw_tbl := fun w h => (List.mem_append.mp h).elim (fun h => (List.mem_append.mp h).elim (fun h => (List.mem_append.mp h).elim (fun h => (List.mem_append.mp h).elim (fun h => (List.mem_append.mp h).elim (fun h => wsL_law_in0 w h) (fun h => wsL_law_x0 w h)) (fun h => wsL_law_x1 w h)) (fun h => wsL_law_x2 w h)) (fun h => wsL_law_x3 w h)) (fun h => wsL_law_x4 w h)
theorem inlX0 : ∀ w ∈ wsX00, w ∈ wsL_law := fun _ h => List.mem_append_left _ (List.mem_append_left _ (List.mem_append_left _ (List.mem_append_left _ (List.mem_append_left _ (List.mem_append_left _ (List.mem_append_right _ h))))))
theorem inX0 : ∀ w ∈ wsX00, w ∈ lw_tbl := fun w h => wsL_law_in w (inlX0 w h)
theorem inlX1 : ∀ w ∈ wsX10, w ∈ wsL_law := fun _ h => List.mem_append_left _ (List.mem_append_left _ (List.mem_append_left _ (List.mem_append_left _ (List.mem_append_left _ (List.mem_append_left _ (List.mem_append_left _ (List.mem_append_left _ (List.mem_append_right _ h))))))))
theorem inX1 : ∀ w ∈ wsX10, w ∈ lw_tbl := fun w h => wsL_law_in w (inlX1 w h)
theorem inlX2 : ∀ w ∈ wsX20, w ∈ wsL_law := fun _ h => List.mem_append_left _ (List.mem_append_left _ (List.mem_append_left _ (List.mem_append_left _ (List.mem_append_left _ (List.mem_append_left _ (List.mem_append_left _ (List.mem_append_right _ h)))))))
theorem inX2 : ∀ w ∈ wsX20, w ∈ lw_tbl := fun w h => wsL_law_in w (inlX2 w h)
theorem inlX3 : ∀ w ∈ wsX30, w ∈ wsL_law := fun _ h => List.mem_append_left _ (List.mem_append_left _ (List.mem_append_left _ (List.mem_append_left _ (List.mem_append_left _ (List.mem_append_left _ (List.mem_append_left _ (List.mem_append_left _ (List.mem_append_left _ (List.mem_append_left _ (List.mem_append_right _ h))))))))))
theorem inX3 : ∀ w ∈ wsX30, w ∈ lw_tbl := fun w h => wsL_law_in w (inlX3 w h)
theorem inlX4 : ∀ w ∈ wsX40, w ∈ wsL_law := fun _ h => List.mem_append_left _ (List.mem_append_left _ (List.mem_append_left _ (List.mem_append_left _ (List.mem_append_left _ (List.mem_append_left _ (List.mem_append_left _ (List.mem_append_left _ (List.mem_append_left _ (List.mem_append_right _ h)))))))))
theorem inX4 : ∀ w ∈ wsX40, w ∈ lw_tbl := fun w h => wsL_law_in w (inlX4 w h)
theorem inJx145de : ∀ w ∈ wsJx145de0, w ∈ lw_tbl := by decide +kernel
theorem inJ9 : ∀ w ∈ wsJ90, w ∈ lw_tbl := by decide +kernel
theorem inJ0 : ∀ w ∈ wsJ00, w ∈ lw_tbl := by decide +kernel
theorem dX0_init_0 : decode cX0_init 0 = .ok (.aload_n 0, 1) := by decide +kernel
theorem dX0_init_1 : decode cX0_init 1 = .ok (.invokespecial 3, 3) := by decide +kernel
theorem dX0_init_4 : decode cX0_init 4 = .ok (.aload_n 0, 1) := by decide +kernel
theorem dX0_init_5 : decode cX0_init 5 = .ok (.bipush 19, 2) := by decide +kernel
theorem dX0_init_7 : decode cX0_init 7 = .ok (.newarray .long, 2) := by decide +kernel
theorem dX0_init_9 : decode cX0_init 9 = .ok (.putfield 9, 3) := by decide +kernel
theorem dX0_init_12 : decode cX0_init 12 = .ok (.aload_n 0, 1) := by decide +kernel
theorem dX0_init_13 : decode cX0_init 13 = .ok (.bipush 19, 2) := by decide +kernel
theorem dX0_init_15 : decode cX0_init 15 = .ok (.newarray .long, 2) := by decide +kernel
theorem dX0_init_17 : decode cX0_init 17 = .ok (.putfield 15, 3) := by decide +kernel
theorem dX0_init_20 : decode cX0_init 20 = .ok (.aload_n 0, 1) := by decide +kernel
theorem dX0_init_21 : decode cX0_init 21 = .ok (.bipush 19, 2) := by decide +kernel
theorem dX0_init_23 : decode cX0_init 23 = .ok (.newarray .long, 2) := by decide +kernel
theorem dX0_init_25 : decode cX0_init 25 = .ok (.putfield 18, 3) := by decide +kernel
theorem dX0_init_28 : decode cX0_init 28 = .ok (.aload_n 0, 1) := by decide +kernel
theorem dX0_init_29 : decode cX0_init 29 = .ok (.iconst 1, 1) := by decide +kernel
theorem dX0_init_30 : decode cX0_init 30 = .ok (.putfield 21, 3) := by decide +kernel
theorem dX0_init_33 : decode cX0_init 33 = .ok (.aload_n 0, 1) := by decide +kernel
theorem dX0_init_34 : decode cX0_init 34 = .ok (.iconst 1, 1) := by decide +kernel
theorem dX0_init_35 : decode cX0_init 35 = .ok (.putfield 25, 3) := by decide +kernel
theorem dX0_init_38 : decode cX0_init 38 = .ok (.aload_n 0, 1) := by decide +kernel
theorem dX0_init_39 : decode cX0_init 39 = .ok (.iconst 1, 1) := by decide +kernel
theorem dX0_init_40 : decode cX0_init 40 = .ok (.putfield 28, 3) := by decide +kernel
theorem dX0_init_43 : decode cX0_init 43 = .ok (.aload_n 0, 1) := by decide +kernel
theorem dX0_init_44 : decode cX0_init 44 = .ok (.iconst 1, 1) := by decide +kernel
theorem dX0_init_45 : decode cX0_init 45 = .ok (.putfield 31, 3) := by decide +kernel
theorem dX0_init_48 : decode cX0_init 48 = .ok (.aload_n 0, 1) := by decide +kernel
theorem dX0_init_49 : decode cX0_init 49 = .ok (.iconst 0, 1) := by decide +kernel
theorem dX0_init_50 : decode cX0_init 50 = .ok (.putfield 34, 3) := by decide +kernel
theorem dX0_init_53 : decode cX0_init 53 = .ok (.aload_n 0, 1) := by decide +kernel
theorem dX0_init_54 : decode cX0_init 54 = .ok (.lconst 0, 1) := by decide +kernel
theorem dX0_init_55 : decode cX0_init 55 = .ok (.putfield 37, 3) := by decide +kernel
theorem dX0_init_58 : decode cX0_init 58 = .ok (.aload_n 0, 1) := by decide +kernel
theorem dX0_init_59 : decode cX0_init 59 = .ok (.iconst (-1), 1) := by decide +kernel
theorem dX0_init_60 : decode cX0_init 60 = .ok (.putfield 41, 3) := by decide +kernel
theorem dX0_init_63 : decode cX0_init 63 = .ok (.return_, 1) := by decide +kernel
