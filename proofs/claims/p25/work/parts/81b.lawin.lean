theorem in_ps {big : List Cond} (ws : List Cond) (ps : List Nat) (hp : ws = ps.filterMap (fun i => big[i]?)) : ∀ w ∈ ws, w ∈ big := by
  intro w hw
  rw [hp] at hw
  obtain ⟨i, -, hi⟩ := List.mem_filterMap.mp hw
  exact List.mem_of_getElem? hi
set_option maxRecDepth 20000 in
theorem lwi_r1 : ∀ w ∈ wsL_law0_r1, w ∈ lw_tbl := in_ps _ [31, 32, 19, 63, 592, 581, 400, 440, 33, 34, 35, 36, 37, 38, 39, 87, 41, 20, 64, 88, 66, 21, 85, 89] (by decide +kernel)
set_option maxRecDepth 20000 in
theorem lwi_r2a : ∀ w ∈ [Cond.instanceMethod yX2_init, Cond.code yX2_init cX2_init 1 none, Cond.methodLink RX2 3 objectInit, Cond.fieldLink RX2 9 "BackhaulReturns$Product" "unitPrice" "I", Cond.fieldLink RX2 15 "BackhaulReturns$Product" "salvageValue" "I", Cond.fieldLink RX2 18 "BackhaulReturns$Product" "repairCost" "I", Cond.fieldLink RX2 21 "BackhaulReturns$Product" "unitsByPlace" "[I", Cond.instanceMethod yX0_init, Cond.code yX0_init cX0_init 1 none, Cond.methodLink RX0 3 objectInit, Cond.fieldLink RX0 9 "BackhaulReturns$Customer" "days" "[I", Cond.fieldLink RX0 15 "BackhaulReturns$Customer" "units" "[I", Cond.arrayClass .boolean, Cond.fieldLink RX0 18 "BackhaulReturns$Customer" "areChained" "[Z", Cond.methodLink RL 150 yL_isRefused, Cond.static yL_isRefused, Cond.initialized RL], w ∈ lw_tbl := in_ps _ [43, 44, 45, 46, 49, 51, 53, 68, 69, 70, 71, 72, 84, 73, 560, 561, 18] (by decide +kernel)
set_option maxRecDepth 20000 in
theorem lwi_r2b : ∀ w ∈ [Cond.constant RL 41 (-700000002), Cond.methodLink RL 98 yX4_sales, Cond.instanceMethod yX4_sales, Cond.selects RX4 yX4_sales yX4_sales, Cond.code yX4_sales cX4_sales 1 (some .int), Cond.fieldLink RX4 77 "BackhaulReturns" "saleCount" "I"], w ∈ lw_tbl := in_ps _ [399, 106, 107, 108, 109, 90] (by decide +kernel)
set_option maxRecDepth 20000 in
theorem lwi_r2c : Cond.code yL_isRefused cL_isRefused 14 (some .boolean) ∈ lw_tbl := List.mem_append_right _ (List.mem_of_getElem? (i := 544) rfl)
theorem lwi_r2 : ∀ w ∈ wsL_law0_r2, w ∈ lw_tbl := fun w h => (List.mem_append.mp (show w ∈ [Cond.instanceMethod yX2_init, Cond.code yX2_init cX2_init 1 none, Cond.methodLink RX2 3 objectInit, Cond.fieldLink RX2 9 "BackhaulReturns$Product" "unitPrice" "I", Cond.fieldLink RX2 15 "BackhaulReturns$Product" "salvageValue" "I", Cond.fieldLink RX2 18 "BackhaulReturns$Product" "repairCost" "I", Cond.fieldLink RX2 21 "BackhaulReturns$Product" "unitsByPlace" "[I", Cond.instanceMethod yX0_init, Cond.code yX0_init cX0_init 1 none, Cond.methodLink RX0 3 objectInit, Cond.fieldLink RX0 9 "BackhaulReturns$Customer" "days" "[I", Cond.fieldLink RX0 15 "BackhaulReturns$Customer" "units" "[I", Cond.arrayClass .boolean, Cond.fieldLink RX0 18 "BackhaulReturns$Customer" "areChained" "[Z", Cond.methodLink RL 150 yL_isRefused, Cond.static yL_isRefused, Cond.initialized RL] ++ [Cond.code yL_isRefused cL_isRefused 14 (some .boolean), Cond.constant RL 41 (-700000002), Cond.methodLink RL 98 yX4_sales, Cond.instanceMethod yX4_sales, Cond.selects RX4 yX4_sales yX4_sales, Cond.code yX4_sales cX4_sales 1 (some .int), Cond.fieldLink RX4 77 "BackhaulReturns" "saleCount" "I"] from h)).elim (lwi_r2a w) (fun h => (List.mem_cons.mp h).elim (fun e => e ▸ lwi_r2c) (lwi_r2b w))
set_option maxRecDepth 20000 in
theorem lwi_r3 : ∀ w ∈ wsL_law0_r3, w ∈ lw_tbl := in_ps _ [563, 564, 565, 566, 571, 580, 575, 567, 568, 569, 570, 92, 572, 573, 574, 576, 577, 578, 579, 110, 111, 112, 113, 349] (by decide +kernel)
set_option maxRecDepth 20000 in
theorem lwi_r4 : ∀ w ∈ wsL_law0_r4, w ∈ lw_tbl := in_ps _ [114, 116, 0, 117, 122, 25, 118, 120, 1, 121, 190, 191, 192, 193, 194, 195, 196, 28, 197, 352, 424, 198, 199, 200] (by decide +kernel)
set_option maxRecDepth 20000 in
theorem lwi_r5 : ∀ w ∈ wsL_law0_r5, w ∈ lw_tbl := in_ps _ [30, 201, 426, 202, 203, 204, 205, 206, 207, 208, 209, 210, 211, 351, 212, 213, 214, 215, 339, 531, 532, 533, 534, 341] (by decide +kernel)
set_option maxRecDepth 20000 in
theorem lwi_r6 : ∀ w ∈ wsL_law0_r6, w ∈ lw_tbl := in_ps _ [535, 536, 537, 538, 466, 467, 468, 469, 539, 540, 541, 542, 453, 543, 545, 15, 546, 547, 548, 550, 16, 551, 552, 554] (by decide +kernel)
set_option maxRecDepth 20000 in
theorem lwi_r7 : ∀ w ∈ wsL_law0_r7, w ∈ lw_tbl := in_ps _ [17, 555, 556, 518, 519, 520, 521, 425, 462, 464, 9, 465, 391, 392, 393, 394, 227, 26, 91, 319, 321, 6, 322, 395] (by decide +kernel)
set_option maxRecDepth 20000 in
theorem lwi_r8 : ∀ w ∈ wsL_law0_r8, w ∈ lw_tbl := in_ps _ [396, 397, 398, 74, 268, 269, 270, 271, 220, 222, 3, 223, 272, 273, 274, 275, 281, 282, 283, 284, 285, 286, 287, 288] (by decide +kernel)
set_option maxRecDepth 20000 in
theorem lwi_r9 : ∀ w ∈ wsL_law0_r9, w ∈ lw_tbl := in_ps _ [289, 290, 48, 50, 52, 291, 292, 293, 294, 295, 296, 297, 299, 27, 315, 316, 317, 318, 329, 324, 326, 7, 327, 330] (by decide +kernel)
set_option maxRecDepth 20000 in
theorem lwi_r10 : ∀ w ∈ wsL_law0_r10, w ∈ lw_tbl := in_ps _ [331, 332, 333, 334, 336, 338, 340, 372, 374, 8, 375, 216, 217, 218, 219, 224, 225, 226, 243, 244, 245, 246, 247, 248] (by decide +kernel)
set_option maxRecDepth 20000 in
theorem lwi_r11 : ∀ w ∈ wsL_law0_r11, w ∈ lw_tbl := in_ps _ [249, 250, 251, 252, 253, 262, 263, 29, 264, 254, 256, 4, 257, 258, 260, 5, 261, 265, 266, 29, 267, 376, 377, 378] (by decide +kernel)
set_option maxRecDepth 20000 in
theorem lwi_r12 : ∀ w ∈ wsL_law0_r12, w ∈ lw_tbl := in_ps _ [379, 380, 381, 382, 383, 384, 387, 388, 389, 390, 528, 529, 530, 404, 455, 456, 457, 458, 459, 460, 461, 337, 409, 410] (by decide +kernel)
set_option maxRecDepth 20000 in
theorem lwi_r13 : ∀ w ∈ wsL_law0_r13, w ∈ lw_tbl := in_ps _ [411, 472, 474, 10, 475, 345, 476, 478, 11, 479, 347, 480, 482, 12, 483, 485, 487, 13, 488, 421, 489, 490, 491, 492] (by decide +kernel)
set_option maxRecDepth 20000 in
theorem lwi_r14 : ∀ w ∈ wsL_law0_r14, w ∈ lw_tbl := in_ps _ [348, 350, 493, 494, 495, 496, 497, 498, 500, 14, 501, 502, 503, 504, 505, 506, 507, 508, 414, 415, 416, 417, 418, 419] (by decide +kernel)
set_option maxRecDepth 20000 in
theorem lwi_r15 : ∀ w ∈ wsL_law0_r15, w ∈ lw_tbl := in_ps _ [420, 422, 47, 436, 437, 438, 439, 342, 449, 450, 451, 452, 423, 344, 346, 511, 512, 513, 514, 401, 402, 403, 405, 406] (by decide +kernel)
set_option maxRecDepth 20000 in
theorem lwi_r16 : ∀ w ∈ wsL_law0_r16, w ∈ lw_tbl := in_ps _ [407, 408, 343, 441, 442, 443, 444, 445, 446, 447, 522, 523, 524, 276, 277, 278, 279, 280, 589, 590, 591, 515, 516, 517] (by decide +kernel)
set_option maxRecDepth 20000 in
theorem lwi_r17a : ∀ w ∈ [Cond.methodLink RL 166 yL_isBack, Cond.static yL_isBack], w ∈ lw_tbl := in_ps _ [582, 583] (by decide +kernel)
set_option maxRecDepth 20000 in
theorem lwi_r17b : ∀ w ∈ [Cond.constantLong RL 140 (100), Cond.constantLong RL 142 (5000), Cond.constantLong RL 144 (10000), Cond.constantLong RL 146 (20000), Cond.methodLink RL 170 yL_areOptions, Cond.static yL_areOptions, Cond.code yL_areOptions cL_areOptions 11 (some .boolean), Cond.methodLink RL 174 yL_isSale, Cond.static yL_isSale, Cond.code yL_isSale cL_isSale 11 (some .boolean)], w ∈ lw_tbl := in_ps _ [585, 586, 587, 588, 557, 558, 559, 525, 526, 527] (by decide +kernel)
set_option maxRecDepth 20000 in
theorem lwi_r17c : Cond.code yL_isBack cL_isBack 38 (some .boolean) ∈ lw_tbl := List.mem_append_right _ (List.mem_of_getElem? (i := 566) rfl)
theorem lwi_r17 : ∀ w ∈ wsL_law0_r17, w ∈ lw_tbl := fun w h => (List.mem_append.mp (show w ∈ [Cond.methodLink RL 166 yL_isBack, Cond.static yL_isBack] ++ [Cond.code yL_isBack cL_isBack 38 (some .boolean), Cond.constantLong RL 140 (100), Cond.constantLong RL 142 (5000), Cond.constantLong RL 144 (10000), Cond.constantLong RL 146 (20000), Cond.methodLink RL 170 yL_areOptions, Cond.static yL_areOptions, Cond.code yL_areOptions cL_areOptions 11 (some .boolean), Cond.methodLink RL 174 yL_isSale, Cond.static yL_isSale, Cond.code yL_isSale cL_isSale 11 (some .boolean)] from h)).elim (lwi_r17a w) (fun h => (List.mem_cons.mp h).elim (fun e => e ▸ lwi_r17c) (lwi_r17b w))
set_option maxRecDepth 20000 in
theorem lwi_X4 : ∀ w ∈ wsX40, w ∈ lw_tbl := in_ps _ [93, 95, 97, 99, 101, 103] (by decide +kernel)
set_option maxRecDepth 20000 in
theorem lwi_X2 : ∀ w ∈ wsX20, w ∈ lw_tbl := in_ps _ [54, 56, 58, 60] (by decide +kernel)
set_option maxRecDepth 20000 in
theorem lwi_X0 : ∀ w ∈ wsX00, w ∈ lw_tbl := in_ps _ [75, 77, 79, 81] (by decide +kernel)
set_option maxRecDepth 20000 in
theorem lwi_X3 : ∀ w ∈ wsX30, w ∈ lw_tbl := in_ps _ [353, 355, 357, 359, 361, 363, 365, 367, 369] (by decide +kernel)
set_option maxRecDepth 20000 in
theorem lwi_X1 : ∀ w ∈ wsX10, w ∈ lw_tbl := in_ps _ [427, 429, 431, 433] (by decide +kernel)
theorem in_app {a b big : List Cond} (ha : ∀ w ∈ a, w ∈ big) (hb : ∀ w ∈ b, w ∈ big) : ∀ w ∈ a ++ b, w ∈ big := fun w h => (List.mem_append.mp h).elim (ha w) (hb w)
theorem wsL_law_in0 : ∀ w ∈ wsL_law0, w ∈ lw_tbl := in_app (in_app (in_app (in_app (in_app (in_app (in_app lwi_r1 (in_app lwi_r2 (in_app lwi_r3 (in_app lwi_r4 (in_app lwi_r5 (in_app lwi_r6 (in_app lwi_r7 (in_app lwi_r8 (in_app lwi_r9 (in_app lwi_r10 (in_app lwi_r11 (in_app lwi_r12 (in_app lwi_r13 (in_app lwi_r14 (in_app lwi_r15 (in_app lwi_r16 lwi_r17)))))))))))))))) lwi_X4) lwi_X2) lwi_X0) lwi_X3) lwi_X1) (fun w h => nomatch h)
theorem wsL_law_x0 : ∀ w ∈ (vx_atS RX4 146 "java/lang/IndexOutOfBoundsException" ["java/lang/RuntimeException", "java/lang/Exception"]).filter goodWord, w ∈ lw_tbl := by decide +kernel
theorem wsL_law_x1 : ∀ w ∈ (vx_atS RX4 42 "java/lang/IllegalArgumentException" ["java/lang/RuntimeException", "java/lang/Exception"]).filter goodWord, w ∈ lw_tbl := by decide +kernel
theorem wsL_law_x2 : ∀ w ∈ (vx_atS RX4 64 "java/lang/IllegalStateException" ["java/lang/RuntimeException", "java/lang/Exception"]).filter goodWord, w ∈ lw_tbl := by decide +kernel
theorem wsL_law_in : ∀ w ∈ wsL_law, w ∈ lw_tbl := fun w h => (List.mem_append.mp h).elim (fun h => (List.mem_append.mp h).elim (fun h => (List.mem_append.mp h).elim (fun h => wsL_law_in0 w h) (fun h => wsL_law_x0 w h)) (fun h => wsL_law_x1 w h)) (fun h => wsL_law_x2 w h)
theorem inlX0 : ∀ w ∈ wsX00, w ∈ wsL_law := fun _ h => List.mem_append_left _ (List.mem_append_left _ (List.mem_append_left _ (List.mem_append_left _ (List.mem_append_left _ (List.mem_append_left _ (List.mem_append_right _ h))))))
theorem inX0 : ∀ w ∈ wsX00, w ∈ lw_tbl := fun w h => wsL_law_in w (inlX0 w h)
theorem inlX1 : ∀ w ∈ wsX10, w ∈ wsL_law := fun _ h => List.mem_append_left _ (List.mem_append_left _ (List.mem_append_left _ (List.mem_append_left _ (List.mem_append_right _ h))))
theorem inX1 : ∀ w ∈ wsX10, w ∈ lw_tbl := fun w h => wsL_law_in w (inlX1 w h)
theorem inlX2 : ∀ w ∈ wsX20, w ∈ wsL_law := fun _ h => List.mem_append_left _ (List.mem_append_left _ (List.mem_append_left _ (List.mem_append_left _ (List.mem_append_left _ (List.mem_append_left _ (List.mem_append_left _ (List.mem_append_right _ h)))))))
theorem inX2 : ∀ w ∈ wsX20, w ∈ lw_tbl := fun w h => wsL_law_in w (inlX2 w h)
theorem inlX3 : ∀ w ∈ wsX30, w ∈ wsL_law := fun _ h => List.mem_append_left _ (List.mem_append_left _ (List.mem_append_left _ (List.mem_append_left _ (List.mem_append_left _ (List.mem_append_right _ h)))))
theorem inX3 : ∀ w ∈ wsX30, w ∈ lw_tbl := fun w h => wsL_law_in w (inlX3 w h)
theorem inlX4 : ∀ w ∈ wsX40, w ∈ wsL_law := fun _ h => List.mem_append_left _ (List.mem_append_left _ (List.mem_append_left _ (List.mem_append_left _ (List.mem_append_left _ (List.mem_append_left _ (List.mem_append_left _ (List.mem_append_left _ (List.mem_append_right _ h))))))))
theorem inX4 : ∀ w ∈ wsX40, w ∈ lw_tbl := fun w h => wsL_law_in w (inlX4 w h)
