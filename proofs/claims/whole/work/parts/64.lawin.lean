theorem in_ps {big : List Cond} (ws : List Cond) (ps : List Nat) (hp : ws = ps.filterMap (fun i => big[i]?)) : ∀ w ∈ ws, w ∈ big := by
  intro w hw
  rw [hp] at hw
  obtain ⟨i, -, hi⟩ := List.mem_filterMap.mp hw
  exact List.mem_of_getElem? hi
set_option maxRecDepth 20000 in
theorem lwi_r1 : ∀ w ∈ wsL_law0_r1, w ∈ lw_tbl := in_ps _ [53, 54, 40, 611, 612, 43, 693, 55, 56, 57, 58, 59, 60, 61, 109, 63, 41, 86, 110, 88, 42, 107, 111, 65] (by decide +kernel)
set_option maxRecDepth 20000 in
theorem lwi_r2 : ∀ w ∈ wsL_law0_r2, w ∈ lw_tbl := in_ps _ [66, 67, 68, 71, 73, 85, 75, 90, 91, 92, 93, 94, 106, 95, 613, 614, 615, 616, 617, 618, 619, 620, 622, 623] (by decide +kernel)
set_option maxRecDepth 20000 in
theorem lwi_r3 : ∀ w ∈ wsL_law0_r3, w ∈ lw_tbl := in_ps _ [624, 625, 626, 627, 628, 630, 631, 632, 633, 634, 635, 636, 639, 640, 136, 137, 39, 138, 139, 140, 141, 142, 143, 152] (by decide +kernel)
set_option maxRecDepth 20000 in
theorem lwi_r4 : ∀ w ∈ wsL_law0_r4, w ∈ lw_tbl := in_ps _ [47, 148, 70, 72, 74, 144, 146, 0, 147, 149, 150, 151, 698, 699, 700, 701, 708, 702, 703, 704, 705, 706, 707, 709] (by decide +kernel)
set_option maxRecDepth 20000 in
theorem lwi_r5 : ∀ w ∈ wsL_law0_r5, w ∈ lw_tbl := in_ps _ [711, 18, 712, 641, 694, 695, 696, 697, 220, 221, 222, 223, 224, 225, 226, 227, 229, 48, 113, 713, 714, 715, 716, 621] (by decide +kernel)
set_option maxRecDepth 20000 in
theorem lwi_r6 : ∀ w ∈ wsL_law0_r6, w ∈ lw_tbl := in_ps _ [245, 246, 247, 248, 249, 250, 251, 262, 49, 112, 252, 254, 2, 255, 257, 259, 3, 260, 263, 264, 265, 266, 267, 285] (by decide +kernel)
set_option maxRecDepth 20000 in
theorem lwi_r7 : ∀ w ∈ wsL_law0_r7, w ∈ lw_tbl := in_ps _ [269, 271, 273, 305, 307, 4, 308, 717, 718, 719, 720, 629, 721, 723, 19, 724, 309, 310, 311, 312, 313, 314, 315, 316] (by decide +kernel)
set_option maxRecDepth 20000 in
theorem lwi_r8 : ∀ w ∈ wsL_law0_r8, w ∈ lw_tbl := in_ps _ [278, 276, 346, 347, 51, 317, 319, 5, 320, 325, 50, 321, 323, 6, 324, 341, 342, 343, 348, 349, 350, 351, 352, 354] (by decide +kernel)
set_option maxRecDepth 20000 in
theorem lwi_r9 : ∀ w ∈ wsL_law0_r9, w ∈ lw_tbl := in_ps _ [69, 358, 368, 369, 370, 371, 275, 725, 726, 727, 728, 729, 731, 20, 732, 733, 735, 21, 736, 737, 739, 22, 740, 372] (by decide +kernel)
set_option maxRecDepth 20000 in
theorem lwi_r10 : ∀ w ∈ wsL_law0_r10, w ∈ lw_tbl := in_ps _ [373, 374, 375, 376, 377, 378, 282, 380, 381, 382, 383, 355, 356, 277, 279, 281, 384, 385, 386, 387, 388, 389, 390, 391] (by decide +kernel)
set_option maxRecDepth 20000 in
theorem lwi_r11 : ∀ w ∈ wsL_law0_r11, w ∈ lw_tbl := in_ps _ [393, 394, 395, 396, 397, 741, 742, 743, 744, 745, 747, 23, 748, 749, 751, 24, 752, 753, 755, 25, 756, 757, 758, 759] (by decide +kernel)
set_option maxRecDepth 20000 in
theorem lwi_r12 : ∀ w ∈ wsL_law0_r12, w ∈ lw_tbl := in_ps _ [760, 761, 762, 763, 128, 129, 130, 131, 764, 765, 766, 767, 398, 399, 400, 401, 402, 403, 404, 768, 769, 770, 771, 405] (by decide +kernel)
set_option maxRecDepth 20000 in
theorem lwi_r13 : ∀ w ∈ wsL_law0_r13, w ∈ lw_tbl := in_ps _ [406, 407, 408, 409, 410, 411, 357, 412, 414, 7, 415, 416, 417, 418, 419, 772, 773, 774, 775, 776, 778, 26, 779, 421] (by decide +kernel)
set_option maxRecDepth 20000 in
theorem lwi_r14 : ∀ w ∈ wsL_law0_r14, w ∈ lw_tbl := in_ps _ [422, 423, 424, 425, 426, 427, 428, 429, 780, 781, 782, 783, 430, 431, 432, 433, 434, 435, 436, 437, 438, 439, 440, 441] (by decide +kernel)
set_option maxRecDepth 20000 in
theorem lwi_r15 : ∀ w ∈ wsL_law0_r15, w ∈ lw_tbl := in_ps _ [443, 8, 444, 445, 446, 448, 9, 449, 450, 452, 10, 453, 454, 784, 785, 786, 787, 788, 790, 27, 791, 792, 794, 28] (by decide +kernel)
set_option maxRecDepth 20000 in
theorem lwi_r16 : ∀ w ∈ wsL_law0_r16, w ∈ lw_tbl := in_ps _ [795, 796, 455, 456, 457, 458, 459, 460, 461, 270, 114, 462, 463, 464, 466, 468, 11, 469, 470, 472, 12, 473, 280, 474] (by decide +kernel)
set_option maxRecDepth 20000 in
theorem lwi_r17 : ∀ w ∈ wsL_law0_r17, w ∈ lw_tbl := in_ps _ [476, 13, 477, 478, 479, 480, 481, 96, 483, 485, 14, 486, 284, 353, 487, 488, 489, 490, 283, 491, 492, 52, 493, 494] (by decide +kernel)
set_option maxRecDepth 20000 in
theorem lwi_r18 : ∀ w ∈ wsL_law0_r18, w ∈ lw_tbl := in_ps _ [495, 496, 497, 498, 499, 500, 501, 502, 503, 504, 513, 505, 507, 15, 508, 509, 511, 16, 512, 514, 515, 52, 516, 517] (by decide +kernel)
set_option maxRecDepth 20000 in
theorem lwi_r19 : ∀ w ∈ wsL_law0_r19, w ∈ lw_tbl := in_ps _ [518, 519, 520, 521, 522, 523, 524, 525, 527, 17, 528, 529, 530, 531, 837, 838, 839, 840, 638, 841, 843, 33, 844, 845] (by decide +kernel)
set_option maxRecDepth 20000 in
theorem lwi_r20 : ∀ w ∈ wsL_law0_r20, w ∈ lw_tbl := in_ps _ [847, 34, 848, 849, 851, 35, 852, 833, 835, 32, 836, 637, 853, 855, 36, 856, 857, 859, 37, 860, 805, 807, 30, 808] (by decide +kernel)
set_option maxRecDepth 20000 in
theorem lwi_r21 : ∀ w ∈ wsL_law0_r21, w ∈ lw_tbl := in_ps _ [809, 811, 31, 812, 813, 814, 815, 816, 861, 863, 38, 864, 532, 533, 534, 535, 536, 537, 538, 274, 272, 865, 866, 867] (by decide +kernel)
set_option maxRecDepth 20000 in
theorem lwi_r22 : ∀ w ∈ wsL_law0_r22, w ∈ lw_tbl := in_ps _ [868, 541, 542, 543, 544, 545, 546, 547, 869, 870, 871, 872, 548, 549, 550, 551, 552, 553, 554, 873, 874, 875, 876, 132] (by decide +kernel)
set_option maxRecDepth 20000 in
theorem lwi_r23 : ∀ w ∈ wsL_law0_r23, w ∈ lw_tbl := in_ps _ [133, 134, 135, 877, 878, 879, 880, 555, 556, 557, 558, 559, 560, 561, 881, 882, 883, 884, 562, 563, 564, 565, 566, 567] (by decide +kernel)
set_option maxRecDepth 20000 in
theorem lwi_r24 : ∀ w ∈ wsL_law0_r24, w ∈ lw_tbl := in_ps _ [568, 885, 886, 887, 888, 569, 570, 571, 572, 573, 574, 575, 797, 798, 799, 800, 801, 803, 29, 804, 576, 577, 578, 579] (by decide +kernel)
set_option maxRecDepth 20000 in
theorem lwi_r25 : ∀ w ∈ wsL_law0_r25, w ∈ lw_tbl := in_ps _ [580, 581, 582, 583, 817, 818, 819, 820, 584, 585, 586, 587, 588, 589, 590, 591, 592, 593, 594, 821, 822, 823, 824, 595] (by decide +kernel)
set_option maxRecDepth 20000 in
theorem lwi_r26 : ∀ w ∈ wsL_law0_r26, w ∈ lw_tbl := in_ps _ [596, 597, 598, 599, 600, 601, 825, 826, 827, 828, 604, 605, 606, 607, 608, 609, 610, 829, 830, 831, 832] (by decide +kernel)
set_option maxRecDepth 20000 in
theorem lwi_X4 : ∀ w ∈ wsX40, w ∈ lw_tbl := in_ps _ [115, 117, 119, 121, 123, 125] (by decide +kernel)
set_option maxRecDepth 20000 in
theorem lwi_X5 : ∀ w ∈ wsX50, w ∈ lw_tbl := in_ps _ [642, 644, 646, 648, 650, 652, 654, 656, 658, 660, 662, 664, 666, 668, 670, 672, 674, 676, 678, 680, 682, 684, 686, 688, 690] (by decide +kernel)
set_option maxRecDepth 20000 in
theorem lwi_X2 : ∀ w ∈ wsX20, w ∈ lw_tbl := in_ps _ [76, 78, 80, 82] (by decide +kernel)
set_option maxRecDepth 20000 in
theorem lwi_X0 : ∀ w ∈ wsX00, w ∈ lw_tbl := in_ps _ [97, 99, 101, 103] (by decide +kernel)
set_option maxRecDepth 20000 in
theorem lwi_X3 : ∀ w ∈ wsX30, w ∈ lw_tbl := in_ps _ [286, 288, 290, 292, 294, 296, 298, 300, 302] (by decide +kernel)
set_option maxRecDepth 20000 in
theorem lwi_X1 : ∀ w ∈ wsX10, w ∈ lw_tbl := in_ps _ [359, 361, 363, 365] (by decide +kernel)
theorem in_app {a b big : List Cond} (ha : ∀ w ∈ a, w ∈ big) (hb : ∀ w ∈ b, w ∈ big) : ∀ w ∈ a ++ b, w ∈ big := fun w h => (List.mem_append.mp h).elim (ha w) (hb w)
theorem wsL_law_in0 : ∀ w ∈ wsL_law0, w ∈ lw_tbl := in_app (in_app (in_app (in_app (in_app (in_app (in_app (in_app lwi_r1 (in_app lwi_r2 (in_app lwi_r3 (in_app lwi_r4 (in_app lwi_r5 (in_app lwi_r6 (in_app lwi_r7 (in_app lwi_r8 (in_app lwi_r9 (in_app lwi_r10 (in_app lwi_r11 (in_app lwi_r12 (in_app lwi_r13 (in_app lwi_r14 (in_app lwi_r15 (in_app lwi_r16 (in_app lwi_r17 (in_app lwi_r18 (in_app lwi_r19 (in_app lwi_r20 (in_app lwi_r21 (in_app lwi_r22 (in_app lwi_r23 (in_app lwi_r24 (in_app lwi_r25 lwi_r26))))))))))))))))))))))))) lwi_X4) lwi_X5) lwi_X2) lwi_X0) lwi_X3) lwi_X1) (fun w h => nomatch h)
theorem wsL_law_x0 : ∀ w ∈ (vx_atS RX4 42 "java/lang/IllegalArgumentException" ["java/lang/RuntimeException", "java/lang/Exception"]).filter goodWord, w ∈ lw_tbl := by decide +kernel
theorem wsL_law_x1 : ∀ w ∈ (vx_atS RX4 64 "java/lang/IllegalStateException" ["java/lang/RuntimeException", "java/lang/Exception"]).filter goodWord, w ∈ lw_tbl := by decide +kernel
theorem wsL_law_x2 : ∀ w ∈ (vx_atS RX4 146 "java/lang/IndexOutOfBoundsException" ["java/lang/RuntimeException", "java/lang/Exception"]).filter goodWord, w ∈ lw_tbl := by decide +kernel
theorem wsL_law_in : ∀ w ∈ wsL_law, w ∈ lw_tbl := fun w h => (List.mem_append.mp h).elim (fun h => (List.mem_append.mp h).elim (fun h => (List.mem_append.mp h).elim (fun h => wsL_law_in0 w h) (fun h => wsL_law_x0 w h)) (fun h => wsL_law_x1 w h)) (fun h => wsL_law_x2 w h)
theorem inlX0 : ∀ w ∈ wsX00, w ∈ wsL_law := fun _ h => List.mem_append_left _ (List.mem_append_left _ (List.mem_append_left _ (List.mem_append_left _ (List.mem_append_left _ (List.mem_append_left _ (List.mem_append_right _ h))))))
theorem inX0 : ∀ w ∈ wsX00, w ∈ lw_tbl := fun w h => wsL_law_in w (inlX0 w h)
theorem inlX1 : ∀ w ∈ wsX10, w ∈ wsL_law := fun _ h => List.mem_append_left _ (List.mem_append_left _ (List.mem_append_left _ (List.mem_append_left _ (List.mem_append_right _ h))))
theorem inX1 : ∀ w ∈ wsX10, w ∈ lw_tbl := fun w h => wsL_law_in w (inlX1 w h)
theorem inlX2 : ∀ w ∈ wsX20, w ∈ wsL_law := fun _ h => List.mem_append_left _ (List.mem_append_left _ (List.mem_append_left _ (List.mem_append_left _ (List.mem_append_left _ (List.mem_append_left _ (List.mem_append_left _ (List.mem_append_right _ h)))))))
theorem inX2 : ∀ w ∈ wsX20, w ∈ lw_tbl := fun w h => wsL_law_in w (inlX2 w h)
theorem inlX3 : ∀ w ∈ wsX30, w ∈ wsL_law := fun _ h => List.mem_append_left _ (List.mem_append_left _ (List.mem_append_left _ (List.mem_append_left _ (List.mem_append_left _ (List.mem_append_right _ h)))))
theorem inX3 : ∀ w ∈ wsX30, w ∈ lw_tbl := fun w h => wsL_law_in w (inlX3 w h)
theorem inlX4 : ∀ w ∈ wsX40, w ∈ wsL_law := fun _ h => List.mem_append_left _ (List.mem_append_left _ (List.mem_append_left _ (List.mem_append_left _ (List.mem_append_left _ (List.mem_append_left _ (List.mem_append_left _ (List.mem_append_left _ (List.mem_append_left _ (List.mem_append_right _ h)))))))))
theorem inX4 : ∀ w ∈ wsX40, w ∈ lw_tbl := fun w h => wsL_law_in w (inlX4 w h)
theorem inlX5 : ∀ w ∈ wsX50, w ∈ wsL_law := fun _ h => List.mem_append_left _ (List.mem_append_left _ (List.mem_append_left _ (List.mem_append_left _ (List.mem_append_left _ (List.mem_append_left _ (List.mem_append_left _ (List.mem_append_left _ (List.mem_append_right _ h))))))))
theorem inX5 : ∀ w ∈ wsX50, w ∈ lw_tbl := fun w h => wsL_law_in w (inlX5 w h)
