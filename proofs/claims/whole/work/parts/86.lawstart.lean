theorem mem_g {α : Type} {big : List α} (ws : List α) (gs js : List Nat) (hp : pickG gs big = js.filterMap (fun i => ws[i]?)) (hc : (List.range ws.length).all (fun i => js.contains i) = true) : ∀ w ∈ ws, w ∈ big := by
  intro w hw
  refine pickG_mem gs big ?_
  obtain ⟨i, hi⟩ := List.getElem?_of_mem hw
  have hl := (List.getElem?_eq_some_iff.mp hi).1
  have h1 := List.all_eq_true.mp hc i (List.mem_range.mpr hl)
  rw [hp]
  exact List.mem_filterMap.mpr ⟨i, List.contains_iff_mem.mp h1, hi⟩
set_option maxRecDepth 100000 in
set_option maxHeartbeats 4000000 in
theorem wl_r1 : ∀ w ∈ wsL_law0_r1, w ∈ lw_tbl := mem_g _ [113, 0, 1, 4, 13, 0, 0, 0, 0, 0, 0, 0, 0, 0, 45, 62, 0, 143, 2, 0, 0, 880, 0, 682] [2, 17, 21, 5, 0, 1, 7, 8, 9, 10, 11, 12, 15, 16, 13, 19, 20, 14, 18, 22, 23, 3, 4, 6] rfl (by decide +kernel)
set_option maxRecDepth 100000 in
set_option maxHeartbeats 4000000 in
theorem wl_r2 : ∀ w ∈ wsL_law0_r2, w ∈ lw_tbl := mem_g _ [115, 1, 0, 0, 0, 25, 0, 0, 0, 0, 40, 84, 0, 21, 0, 26, 0, 29, 0, 40, 4, 0, 0, 0] [22, 2, 6, 10, 14, 17, 18, 19, 20, 21, 23, 0, 1, 4, 5, 8, 9, 12, 13, 16, 3, 7, 11, 15] rfl (by decide +kernel)
set_option maxRecDepth 100000 in
set_option maxHeartbeats 4000000 in
theorem wl_r3 : ∀ w ∈ wsL_law0_r3, w ∈ lw_tbl := mem_g _ [152, 0, 0, 0, 1, 0, 0, 0, 39, 1, 5, 1, 44, 0, 0, 0, 0, 2, 16, 0, 0, 0, 1, 0] [4, 5, 6, 7, 8, 9, 10, 11, 0, 1, 2, 3, 12, 13, 14, 15, 16, 17, 18, 19, 20, 21, 22, 23] rfl (by decide +kernel)
set_option maxRecDepth 100000 in
set_option maxHeartbeats 4000000 in
theorem wl_r4 : ∀ w ∈ wsL_law0_r4, w ∈ lw_tbl := mem_g _ [194, 2, 88, 15, 0, 0, 0, 2, 21, 0, 0, 8, 19, 0, 0, 0, 8, 0, 0, 0, 0, 0, 0, 0] [18, 19, 0, 1, 2, 3, 4, 5, 6, 7, 8, 9, 10, 11, 12, 13, 14, 15, 16, 17, 20, 21, 22, 23] rfl (by decide +kernel)
set_option maxRecDepth 100000 in
set_option maxHeartbeats 4000000 in
theorem wl_r5 : ∀ w ∈ wsL_law0_r5, w ∈ lw_tbl := mem_g _ [0, 0, 159, 4, 3, 35, 5, 1, 1, 164, 0, 0, 0, 0, 1, 0, 0, 0, 0, 0, 0, 0, 1, 0] [9, 22, 0, 1, 6, 15, 16, 17, 18, 2, 3, 4, 5, 7, 8, 10, 11, 12, 13, 14, 19, 20, 21, 23] rfl (by decide +kernel)
set_option maxRecDepth 100000 in
set_option maxHeartbeats 4000000 in
theorem wl_r6 : ∀ w ∈ wsL_law0_r6, w ∈ lw_tbl := mem_g _ [112, 105, 1, 1, 560, 0, 0, 500, 0, 0, 0, 0, 1, 1, 0, 0, 0, 0, 1, 0, 2, 1, 8, 56] [23, 0, 1, 2, 7, 21, 22, 3, 4, 5, 6, 8, 9, 10, 11, 12, 13, 15, 16, 17, 18, 19, 20, 14] rfl (by decide +kernel)
set_option maxRecDepth 100000 in
set_option maxHeartbeats 4000000 in
theorem wl_r7 : ∀ w ∈ wsL_law0_r7, w ∈ lw_tbl := mem_g _ [15, 14, 94, 273, 98, 0, 286, 0, 0, 0, 0, 0, 0, 67, 1, 0, 0, 426, 89, 1, 303, 0, 0, 0] [11, 23, 7, 8, 14, 15, 0, 1, 2, 3, 4, 5, 6, 9, 10, 12, 13, 20, 21, 22, 16, 17, 18, 19] rfl (by decide +kernel)
set_option maxRecDepth 100000 in
set_option maxHeartbeats 4000000 in
theorem wl_r8 : ∀ w ∈ wsL_law0_r8, w ∈ lw_tbl := mem_g _ [31, 58, 35, 738, 0, 0, 0, 0, 0, 0, 0, 0, 419, 79, 0, 0, 0, 7, 0, 1, 0, 302, 1, 0] [8, 4, 23, 14, 15, 16, 17, 18, 19, 20, 21, 22, 1, 10, 11, 12, 13, 0, 6, 7, 9, 2, 3, 5] rfl (by decide +kernel)
set_option maxRecDepth 100000 in
set_option maxHeartbeats 4000000 in
theorem wl_r9 : ∀ w ∈ wsL_law0_r9, w ∈ lw_tbl := mem_g _ [307, 3, 2, 89, 484, 0, 0, 0, 0, 0, 0, 0, 0, 0, 0, 0, 0, 494, 0, 0, 296, 0, 0, 0] [19, 20, 21, 14, 7, 8, 9, 10, 11, 12, 13, 15, 16, 17, 18, 22, 23, 4, 5, 6, 0, 1, 2, 3] rfl (by decide +kernel)
set_option maxRecDepth 100000 in
set_option maxHeartbeats 4000000 in
theorem wl_r10 : ∀ w ∈ wsL_law0_r10, w ∈ lw_tbl := mem_g _ [16, 0, 315, 1, 7, 140, 0, 416, 0, 0, 1, 0, 0, 0, 0, 0, 1, 0, 0, 0, 0, 0, 0, 1] [5, 23, 7, 8, 2, 13, 14, 0, 1, 3, 4, 6, 9, 10, 11, 12, 15, 16, 17, 18, 19, 20, 21, 22] rfl (by decide +kernel)
set_option maxRecDepth 100000 in
set_option maxHeartbeats 4000000 in
theorem wl_r11 : ∀ w ∈ wsL_law0_r11, w ∈ lw_tbl := mem_g _ [18, 108, 585, 0, 0, 0, 0, 0, 0, 0, 201, 0, 0, 0, 0, 1, 0, 1, 0, 0, 0, 0, 1049, 0] [6, 15, 13, 14, 16, 18, 19, 20, 21, 22, 0, 1, 2, 3, 4, 5, 7, 8, 9, 10, 11, 12, 17, 23] rfl (by decide +kernel)
set_option maxRecDepth 100000 in
set_option maxHeartbeats 4000000 in
theorem wl_r12 : ∀ w ∈ wsL_law0_r12, w ∈ lw_tbl := mem_g _ [128, 0, 0, 592, 0, 0, 0, 0, 0, 0, 0, 0, 0, 0, 0, 0, 0, 1, 0, 0, 0, 0, 0, 192] [10, 18, 22, 1, 2, 3, 4, 5, 6, 7, 8, 9, 11, 12, 13, 14, 15, 16, 17, 19, 20, 21, 23, 0] rfl (by decide +kernel)
set_option maxRecDepth 100000 in
set_option maxHeartbeats 4000000 in
theorem wl_r13 : ∀ w ∈ wsL_law0_r13, w ∈ lw_tbl := mem_g _ [744, 0, 0, 0, 0, 0, 0, 0, 0, 0, 0, 1, 1, 178, 0, 0, 0, 0, 0, 0, 0, 0, 0, 1] [0, 1, 2, 3, 4, 5, 6, 7, 8, 9, 10, 11, 12, 13, 14, 15, 16, 17, 18, 19, 20, 21, 22, 23] rfl (by decide +kernel)
set_option maxRecDepth 100000 in
set_option maxHeartbeats 4000000 in
theorem wl_r14 : ∀ w ∈ wsL_law0_r14, w ∈ lw_tbl := mem_g _ [19, 0, 0, 0, 314, 1, 301, 129, 0, 176, 0, 0, 0, 1, 1, 0, 0, 1, 0, 1, 1, 0, 3, 0] [0, 11, 15, 19, 2, 3, 21, 7, 8, 1, 4, 5, 6, 9, 10, 12, 13, 14, 16, 17, 18, 20, 22, 23] rfl (by decide +kernel)
set_option maxRecDepth 100000 in
set_option maxHeartbeats 4000000 in
theorem wl_r15 : ∀ w ∈ wsL_law0_r15, w ∈ lw_tbl := mem_g _ [23, 462, 0, 58, 0, 0, 5, 0, 0, 0, 124, 0, 0, 287, 0, 0, 0, 0, 0, 0, 0, 1, 0, 0] [12, 22, 23, 19, 20, 21, 15, 16, 17, 18, 7, 8, 9, 0, 1, 2, 3, 4, 5, 6, 10, 11, 13, 14] rfl (by decide +kernel)
set_option maxRecDepth 100000 in
set_option maxHeartbeats 4000000 in
theorem wl_r16 : ∀ w ∈ wsL_law0_r16, w ∈ lw_tbl := mem_g _ [4, 19, 450, 1, 0, 0, 0, 0, 0, 5, 0, 1, 0, 37, 0, 0, 80, 0, 0, 0, 367, 0, 1, 0] [22, 18, 20, 21, 23, 4, 5, 6, 7, 0, 1, 2, 3, 13, 14, 15, 9, 10, 11, 12, 8, 16, 17, 19] rfl (by decide +kernel)
set_option maxRecDepth 100000 in
set_option maxHeartbeats 4000000 in
theorem wl_r17 : ∀ w ∈ wsL_law0_r17, w ∈ lw_tbl := mem_g _ [5, 0, 256, 1, 227, 1, 0, 3, 1, 0, 67, 115, 0, 0, 299, 0, 0, 0, 0, 320, 234, 0, 0, 0] [2, 6, 17, 18, 0, 1, 3, 4, 5, 7, 12, 9, 10, 11, 8, 13, 14, 15, 16, 23, 19, 20, 21, 22] rfl (by decide +kernel)
set_option maxRecDepth 100000 in
set_option maxHeartbeats 4000000 in
theorem wl_r18 : ∀ w ∈ wsL_law0_r18, w ∈ lw_tbl := mem_g _ [32, 28, 0, 0, 0, 1234, 7, 0, 0, 0, 92, 1, 0, 146, 1, 0, 0, 1, 0, 0, 1, 0, 0, 1] [5, 9, 14, 19, 23, 1, 2, 11, 16, 0, 3, 4, 6, 7, 8, 10, 12, 13, 15, 17, 18, 20, 21, 22] rfl (by decide +kernel)
set_option maxRecDepth 100000 in
set_option maxHeartbeats 4000000 in
theorem wl_r19 : ∀ w ∈ wsL_law0_r19, w ∈ lw_tbl := mem_g _ [65, 0, 0, 0, 1242, 0, 0, 254, 0, 0, 0, 1, 0, 0, 1, 0, 0, 0, 1, 0, 0, 1, 0, 0] [7, 12, 17, 21, 1, 4, 9, 0, 2, 3, 5, 6, 8, 10, 11, 13, 14, 15, 16, 18, 19, 20, 22, 23] rfl (by decide +kernel)
set_option maxRecDepth 100000 in
set_option maxHeartbeats 4000000 in
theorem wl_r20 : ∀ w ∈ wsL_law0_r20, w ∈ lw_tbl := mem_g _ [69, 0, 0, 0, 0, 1516, 0, 0, 1, 0, 0, 0, 0, 0, 1, 0, 0, 1, 0, 0, 0, 0, 0, 1] [1, 5, 12, 16, 23, 0, 2, 3, 4, 6, 7, 8, 9, 10, 11, 13, 14, 15, 17, 18, 19, 20, 21, 22] rfl (by decide +kernel)
set_option maxRecDepth 100000 in
set_option maxHeartbeats 4000000 in
theorem wl_r21 : ∀ w ∈ wsL_law0_r21, w ∈ lw_tbl := mem_g _ [54, 1, 3, 13, 0, 1422, 1, 0, 8, 1, 0, 0, 1, 17, 1, 0, 75, 0, 1, 0, 0, 0, 1, 0] [7, 20, 3, 11, 16, 5, 6, 8, 18, 19, 21, 22, 23, 1, 2, 4, 0, 9, 10, 12, 13, 14, 15, 17] rfl (by decide +kernel)
set_option maxRecDepth 100000 in
set_option maxHeartbeats 4000000 in
theorem wl_r22 : ∀ w ∈ wsL_law0_r22, w ∈ lw_tbl := mem_g _ [34, 0, 0, 0, 19, 0, 1356, 1, 0, 0, 1, 0, 0, 1, 0, 0, 1, 0, 0, 1, 83, 0, 1, 0] [4, 12, 16, 20, 0, 8, 2, 3, 5, 10, 11, 13, 14, 15, 17, 18, 19, 21, 22, 23, 1, 6, 7, 9] rfl (by decide +kernel)
set_option maxRecDepth 100000 in
set_option maxHeartbeats 4000000 in
theorem wl_r23 : ∀ w ∈ wsL_law0_r23, w ∈ lw_tbl := mem_g _ [38, 0, 0, 0, 0, 0, 1390, 0, 1, 0, 0, 0, 0, 0, 1, 0, 0, 1, 0, 0, 1, 0, 0, 1] [0, 4, 11, 15, 19, 23, 1, 2, 3, 5, 6, 7, 8, 9, 10, 12, 13, 14, 16, 17, 18, 20, 21, 22] rfl (by decide +kernel)
set_option maxRecDepth 100000 in
set_option maxHeartbeats 4000000 in
theorem wl_r24 : ∀ w ∈ wsL_law0_r24, w ∈ lw_tbl := mem_g _ [44, 0, 0, 0, 0, 0, 1407, 0, 1, 0, 0, 1, 0, 0, 1, 0, 0, 1, 0, 0, 1, 0, 0, 1] [3, 7, 11, 15, 19, 23, 0, 1, 2, 4, 5, 6, 8, 9, 10, 12, 13, 14, 16, 17, 18, 20, 21, 22] rfl (by decide +kernel)
set_option maxRecDepth 100000 in
set_option maxHeartbeats 4000000 in
theorem wl_r25 : ∀ w ∈ wsL_law0_r25, w ∈ lw_tbl := mem_g _ [50, 0, 0, 0, 1, 20, 1404, 0, 1, 0, 0, 1, 0, 0, 1, 0, 0, 1, 0, 4, 1, 0, 117, 1] [3, 7, 11, 15, 19, 23, 0, 1, 2, 4, 5, 6, 8, 9, 10, 12, 13, 14, 16, 17, 18, 20, 21, 22] rfl (by decide +kernel)
set_option maxRecDepth 100000 in
set_option maxHeartbeats 4000000 in
theorem wl_r26 : ∀ w ∈ wsL_law0_r26, w ∈ lw_tbl := mem_g _ [7, 280, 360, 0, 0, 0, 0, 5, 1, 0, 331, 0, 0, 0, 0, 0, 0, 0, 0, 0, 0, 0, 0, 619] [22, 12, 8, 9, 10, 11, 13, 20, 21, 23, 1, 2, 3, 4, 5, 6, 7, 14, 15, 16, 17, 18, 19, 0] rfl (by decide +kernel)
set_option maxRecDepth 100000 in
set_option maxHeartbeats 4000000 in
theorem wl_r27 : ∀ w ∈ wsL_law0_r27, w ∈ lw_tbl := mem_g _ [8, 0, 653, 0, 0, 0, 0, 0, 1, 0, 0, 0, 0, 0, 0, 0, 1, 0, 0, 3, 0, 4, 0, 0] [7, 16, 0, 1, 2, 3, 4, 5, 6, 8, 9, 10, 11, 12, 13, 14, 15, 17, 18, 19, 20, 21, 22, 23] rfl (by decide +kernel)
set_option maxRecDepth 100000 in
set_option maxHeartbeats 4000000 in
theorem wl_r28 : ∀ w ∈ wsL_law0_r28, w ∈ lw_tbl := mem_g _ [77, 53, 0, 328, 0, 0, 0, 0, 0, 0, 0, 225, 313, 293, 0, 1, 321, 0, 0, 0, 0, 1, 0, 0] [18, 6, 11, 2, 3, 4, 5, 7, 8, 10, 9, 0, 1, 20, 21, 22, 12, 13, 14, 15, 16, 17, 19, 23] rfl (by decide +kernel)
set_option maxRecDepth 100000 in
set_option maxHeartbeats 4000000 in
theorem wl_r29 : ∀ w ∈ wsL_law0_r29, w ∈ lw_tbl := mem_g _ [78, 0, 0, 0, 0, 0, 1553, 0, 0, 1, 0, 0, 1, 0, 0, 1, 0, 0, 1, 0, 0, 1, 0, 0] [1, 5, 9, 13, 17, 21, 0, 2, 3, 4, 6, 7, 8, 10, 11, 12, 14, 15, 16, 18, 19, 20, 22, 23] rfl (by decide +kernel)
set_option maxRecDepth 100000 in
set_option maxHeartbeats 4000000 in
theorem wl_r30 : ∀ w ∈ wsL_law0_r30, w ∈ lw_tbl := mem_g _ [84, 0, 0, 0, 0, 0, 342, 1228, 0, 0, 1, 0, 0, 1, 0, 0, 1, 0, 0, 1, 0, 0, 1, 0] [1, 5, 9, 13, 17, 21, 23, 0, 2, 3, 4, 6, 7, 8, 10, 11, 12, 14, 15, 16, 18, 19, 20, 22] rfl (by decide +kernel)
set_option maxRecDepth 100000 in
set_option maxHeartbeats 4000000 in
theorem wl_r31 : ∀ w ∈ wsL_law0_r31, w ∈ lw_tbl := mem_g _ [25, 0, 406, 0, 0, 4, 0, 567, 0, 0, 0, 0, 0, 0, 0, 1, 0, 0, 1, 0, 659, 0, 0, 0] [16, 20, 0, 1, 2, 22, 23, 7, 8, 9, 10, 11, 12, 13, 14, 15, 17, 18, 19, 21, 3, 4, 5, 6] rfl (by decide +kernel)
set_option maxRecDepth 100000 in
set_option maxHeartbeats 4000000 in
theorem wl_r32 : ∀ w ∈ wsL_law0_r32, w ∈ lw_tbl := mem_g _ [2, 0, 260, 177, 0, 0, 1, 0, 0, 1, 0, 0, 0, 0, 0, 0, 0, 0, 0, 10, 940, 0, 0, 0] [6, 10, 2, 0, 1, 4, 5, 7, 8, 9, 11, 12, 13, 14, 15, 16, 17, 18, 19, 3, 20, 21, 22, 23] rfl (by decide +kernel)
set_option maxRecDepth 100000 in
set_option maxHeartbeats 4000000 in
theorem wl_r33 : ∀ w ∈ wsL_law0_r33, w ∈ lw_tbl := mem_g _ [33, 402, 0, 0, 0, 31, 0, 0, 0, 551, 0, 0, 0, 0, 0, 0, 374, 1, 0, 95, 0, 0, 0, 12] [2, 15, 16, 17, 18, 19, 20, 21, 22, 4, 5, 6, 7, 8, 9, 10, 0, 1, 3, 11, 12, 13, 14, 23] rfl (by decide +kernel)
set_option maxRecDepth 100000 in
set_option maxHeartbeats 4000000 in
theorem wl_r34 : ∀ w ∈ wsL_law0_r34, w ∈ lw_tbl := mem_g _ [59, 444, 0, 0, 0, 0, 526, 0, 0, 0, 0, 0, 0, 481, 0, 0, 0, 1, 0, 0, 0, 0, 0, 4] [5, 7, 8, 9, 10, 11, 16, 17, 18, 19, 20, 21, 22, 0, 1, 2, 3, 4, 6, 12, 13, 14, 15, 23] rfl (by decide +kernel)
set_option maxRecDepth 100000 in
set_option maxHeartbeats 4000000 in
theorem wl_r35 : ∀ w ∈ wsL_law0_r35, w ∈ lw_tbl := mem_g _ [1043, 0, 0, 0, 0, 0, 0, 1, 0, 0, 0, 0, 0, 0, 481, 0, 0, 0, 0, 0, 0, 0, 0, 0] [3, 4, 5, 6, 7, 8, 9, 17, 18, 19, 20, 21, 22, 23, 0, 1, 2, 10, 11, 12, 13, 14, 15, 16] rfl (by decide +kernel)
set_option maxRecDepth 100000 in
set_option maxHeartbeats 4000000 in
theorem wl_r36 : ∀ w ∈ wsL_law0_r36, w ∈ lw_tbl := mem_g _ [133, 924, 0, 0, 1, 0, 0, 0, 0, 0, 0, 0, 0, 0, 0, 0, 4, 310, 0, 0, 0, 0, 0, 0] [23, 0, 1, 2, 3, 4, 5, 6, 14, 15, 16, 17, 18, 19, 20, 21, 22, 7, 8, 9, 10, 11, 12, 13] rfl (by decide +kernel)
set_option maxRecDepth 100000 in
set_option maxHeartbeats 4000000 in
theorem wl_r37 : ∀ w ∈ wsL_law0_r37, w ∈ lw_tbl := mem_g _ [27, 1046, 0, 0, 0, 16, 0, 0, 0, 0, 1, 0, 0, 0, 0, 0, 0, 0, 0, 1, 288, 0, 0, 0] [10, 0, 1, 2, 3, 4, 5, 6, 7, 8, 9, 11, 16, 17, 18, 19, 20, 21, 22, 23, 12, 13, 14, 15] rfl (by decide +kernel)
set_option maxRecDepth 100000 in
set_option maxHeartbeats 4000000 in
theorem wl_r38 : ∀ w ∈ wsL_law0_r38, w ∈ lw_tbl := mem_g _ [509, 0, 0, 0, 0, 0, 0, 0, 0, 593, 0, 0, 263, 0, 0, 0, 318, 0, 0, 0, 0, 0, 0, 0] [7, 8, 9, 10, 15, 16, 17, 18, 23, 0, 1, 2, 3, 4, 5, 6, 11, 12, 13, 14, 19, 20, 21, 22] rfl (by decide +kernel)
set_option maxRecDepth 100000 in
set_option maxHeartbeats 4000000 in
theorem wl_r39 : ∀ w ∈ wsL_law0_r39, w ∈ lw_tbl := mem_g _ [518, 0, 0, 0, 0, 0, 0, 0, 0, 0, 0, 0, 1177, 0, 0, 0, 0, 0, 0, 0, 0, 0, 0, 0] [0, 1, 2, 7, 8, 9, 10, 15, 16, 17, 18, 19, 3, 4, 5, 6, 11, 12, 13, 14, 20, 21, 22, 23] rfl (by decide +kernel)
set_option maxRecDepth 100000 in
set_option maxHeartbeats 4000000 in
theorem wl_r40 : ∀ w ∈ wsL_law0_r40, w ∈ lw_tbl := mem_g _ [533, 0, 0, 0, 0, 0, 0, 0, 0, 0, 0, 0, 0, 1173, 0, 0, 0, 0, 0, 0, 0, 0, 0, 0] [0, 1, 2, 3, 8, 9, 10, 11, 16, 17, 18, 19, 20, 4, 5, 6, 7, 12, 13, 14, 15, 21, 22, 23] rfl (by decide +kernel)
set_option maxRecDepth 100000 in
set_option maxHeartbeats 4000000 in
theorem wl_r41 : ∀ w ∈ wsL_law0_r41, w ∈ lw_tbl := mem_g _ [91, 457, 0, 0, 0, 0, 4, 0, 0, 0, 0, 551, 615, 0, 0, 0, 0, 0, 1, 0, 0, 0, 0, 0] [12, 1, 2, 3, 4, 5, 14, 15, 16, 17, 18, 23, 0, 6, 7, 8, 9, 10, 11, 13, 19, 20, 21, 22] rfl (by decide +kernel)
set_option maxRecDepth 100000 in
set_option maxHeartbeats 4000000 in
theorem wl_r42 : ∀ w ∈ wsL_law0_r42, w ∈ lw_tbl := mem_g _ [28, 63, 41, 980, 0, 0, 0, 0, 0, 0, 0, 1, 0, 0, 0, 0, 0, 15, 597, 0, 0, 0, 0, 1] [9, 23, 15, 0, 1, 2, 3, 4, 5, 6, 7, 8, 10, 11, 12, 13, 14, 16, 17, 18, 19, 20, 21, 22] rfl (by decide +kernel)
set_option maxRecDepth 100000 in
set_option maxHeartbeats 4000000 in
theorem wl_r43 : ∀ w ∈ wsL_law0_r43, w ∈ lw_tbl := mem_g _ [93, 1052, 0, 0, 0, 0, 0, 0, 0, 0, 0, 0, 0, 0, 0, 0, 589, 0, 0, 0, 0, 0, 1, 0] [15, 1, 2, 3, 4, 5, 6, 7, 8, 17, 18, 19, 20, 21, 22, 23, 0, 9, 10, 11, 12, 13, 14, 16] rfl (by decide +kernel)
set_option maxRecDepth 100000 in
set_option maxHeartbeats 4000000 in
theorem wl_r44 : ∀ w ∈ wsL_law0_r44, w ∈ lw_tbl := mem_g _ [1162, 0, 0, 0, 0, 0, 0, 1, 1, 0, 0, 0, 0, 0, 0, 0, 579, 0, 0, 0, 0, 0, 0, 0] [4, 5, 6, 7, 8, 9, 10, 11, 16, 17, 18, 19, 20, 21, 22, 23, 0, 1, 2, 3, 12, 13, 14, 15] rfl (by decide +kernel)
set_option maxRecDepth 100000 in
set_option maxHeartbeats 4000000 in
theorem wl_r45 : ∀ w ∈ wsL_law0_r45, w ∈ lw_tbl := mem_g _ [563, 0, 0, 0, 0, 0, 0, 0, 609, 0, 0, 0, 0, 0, 0, 0, 579, 0, 0, 0, 0, 0, 0, 0] [7, 8, 9, 10, 11, 12, 13, 14, 0, 1, 2, 19, 20, 21, 22, 23, 3, 4, 5, 6, 15, 16, 17, 18] rfl (by decide +kernel)
set_option maxRecDepth 100000 in
set_option maxHeartbeats 4000000 in
theorem wl_r46 : ∀ w ∈ wsL_law0_r46, w ∈ lw_tbl := mem_g _ [29, 1158, 0, 0, 0, 0, 0, 1, 0, 0, 0, 0, 0, 0, 0, 1, 0, 569, 0, 0, 0, 0, 0, 0] [19, 0, 1, 2, 3, 4, 5, 10, 11, 12, 13, 14, 15, 16, 17, 18, 20, 6, 7, 8, 9, 21, 22, 23] rfl (by decide +kernel)
set_option maxRecDepth 100000 in
set_option maxHeartbeats 4000000 in
theorem wl_r47 : ∀ w ∈ wsL_law0_r47, w ∈ lw_tbl := mem_g _ [94, 477, 0, 0, 0, 630, 0, 0, 0, 0, 0, 0, 569, 0, 1, 0, 0, 0, 0, 0, 0, 0, 0, 0] [3, 5, 6, 7, 8, 13, 14, 15, 16, 17, 18, 19, 0, 1, 2, 4, 9, 10, 11, 12, 20, 21, 22, 23] rfl (by decide +kernel)
set_option maxRecDepth 100000 in
set_option maxHeartbeats 4000000 in
theorem wl_r48 : ∀ w ∈ wsL_law0_r48, w ∈ lw_tbl := mem_g _ [95, 0, 0, 1116, 0, 0, 0, 0, 0, 0, 0, 573, 0, 0, 0, 0, 1, 0, 0, 1, 0, 0, 1, 0] [14, 18, 22, 0, 1, 2, 3, 4, 5, 6, 7, 8, 9, 10, 11, 12, 13, 15, 16, 17, 19, 20, 21, 23] rfl (by decide +kernel)
set_option maxRecDepth 100000 in
set_option maxHeartbeats 4000000 in
theorem wl_r49 : ∀ w ∈ wsL_law0_r49, w ∈ lw_tbl := mem_g _ [98, 477, 0, 0, 0, 642, 0, 0, 0, 0, 0, 0, 0, 581, 1, 0, 0, 0, 0, 0, 0, 0, 0, 0] [2, 15, 16, 17, 18, 4, 5, 6, 7, 8, 9, 10, 23, 0, 1, 3, 11, 12, 13, 14, 19, 20, 21, 22] rfl (by decide +kernel)
set_option maxRecDepth 100000 in
set_option maxHeartbeats 4000000 in
theorem wl_r50 : ∀ w ∈ wsL_law0_r50, w ∈ lw_tbl := mem_g _ [580, 0, 0, 0, 646, 0, 0, 0, 0, 0, 0, 0, 0, 0, 0, 0, 581, 0, 0, 0, 0, 0, 0, 0] [10, 11, 12, 13, 0, 1, 2, 3, 4, 5, 18, 19, 20, 21, 22, 23, 6, 7, 8, 9, 14, 15, 16, 17] rfl (by decide +kernel)
set_option maxRecDepth 100000 in
set_option maxHeartbeats 4000000 in
theorem wl_r51 : ∀ w ∈ wsL_law0_r51, w ∈ lw_tbl := mem_g _ [99, 484, 0, 0, 0, 654, 0, 0, 0, 0, 0, 0, 0, 581, 0, 0, 0, 0, 1, 0, 0, 0, 0, 0] [7, 20, 21, 22, 23, 0, 9, 10, 11, 12, 13, 14, 15, 1, 2, 3, 4, 5, 6, 8, 16, 17, 18, 19] rfl (by decide +kernel)
set_option maxRecDepth 100000 in
set_option maxHeartbeats 4000000 in
theorem wl_r52 : ∀ w ∈ wsL_law0_r52, w ∈ lw_tbl := mem_g _ [100, 542, 0, 605, 0, 0, 0, 0, 0, 0, 0, 0, 0, 0, 0, 581, 0, 0, 0, 0, 1, 0, 0, 0] [6, 20, 21, 8, 9, 10, 11, 12, 13, 14, 15, 16, 17, 18, 19, 0, 1, 2, 3, 4, 5, 7, 22, 23] rfl (by decide +kernel)
set_option maxRecDepth 100000 in
set_option maxHeartbeats 4000000 in
theorem wl_r53 : ∀ w ∈ wsL_law0_r53, w ∈ lw_tbl := mem_g _ [101, 0, 485, 0, 0, 0, 670, 0, 0, 0, 0, 0, 585, 0, 0, 1, 0, 0, 0, 0, 0, 0, 1, 0] [4, 16, 6, 7, 8, 9, 18, 19, 20, 21, 22, 23, 0, 1, 2, 3, 5, 10, 11, 12, 13, 14, 15, 17] rfl (by decide +kernel)
set_option maxRecDepth 100000 in
set_option maxHeartbeats 4000000 in
theorem wl_r54 : ∀ w ∈ wsL_law0_r54, w ∈ lw_tbl := mem_g _ [592, 0, 0, 0, 0, 0, 0, 0, 0, 0, 666, 0, 597, 0, 0, 0, 0, 0, 0, 0, 0, 0, 0, 0] [6, 7, 8, 9, 14, 15, 16, 17, 22, 23, 0, 1, 2, 3, 4, 5, 10, 11, 12, 13, 18, 19, 20, 21] rfl (by decide +kernel)
set_option maxRecDepth 100000 in
set_option maxHeartbeats 4000000 in
theorem wl_r55 : ∀ w ∈ wsL_law0_r55, w ∈ lw_tbl := mem_g _ [602, 0, 0, 0, 0, 0, 0, 0, 0, 0, 0, 4, 1261, 0, 0, 0, 0, 0, 0, 0, 0, 0, 0, 0] [0, 1, 6, 7, 8, 9, 14, 15, 16, 17, 18, 23, 2, 3, 4, 5, 10, 11, 12, 13, 19, 20, 21, 22] rfl (by decide +kernel)
set_option maxRecDepth 100000 in
set_option maxHeartbeats 4000000 in
theorem wl_r56 : ∀ w ∈ wsL_law0_r56, w ∈ lw_tbl := mem_g _ [618, 0, 0, 0, 0, 0, 0, 0, 0, 0, 0, 0, 0, 0, 0, 1258, 0, 0, 0, 0, 0, 0, 0, 0] [0, 1, 2, 3, 4, 5, 6, 11, 12, 13, 14, 19, 20, 21, 22, 7, 8, 9, 10, 15, 16, 17, 18, 23] rfl (by decide +kernel)
set_option maxRecDepth 100000 in
set_option maxHeartbeats 4000000 in
theorem wl_r57 : ∀ w ∈ wsL_law0_r57, w ∈ lw_tbl := mem_g _ [633, 0, 0, 0, 0, 0, 631, 0, 0, 0, 0, 0, 0, 623, 0, 0, 0, 0, 0, 0, 0, 0, 0, 0] [3, 4, 5, 6, 22, 23, 11, 12, 13, 14, 15, 16, 17, 0, 1, 2, 7, 8, 9, 10, 18, 19, 20, 21] rfl (by decide +kernel)
set_option maxRecDepth 100000 in
set_option maxHeartbeats 4000000 in
theorem wl_r58 : ∀ w ∈ wsL_law0_r58, w ∈ lw_tbl := mem_g _ [103, 535, 0, 1, 2, 0, 0, 0, 5, 0, 0, 0, 37, 1215, 0, 0, 0, 0, 0, 0, 0, 0, 1, 0] [21, 0, 1, 2, 7, 8, 9, 10, 11, 12, 13, 14, 23, 3, 4, 5, 6, 15, 16, 17, 18, 19, 20, 22] rfl (by decide +kernel)
set_option maxRecDepth 100000 in
set_option maxHeartbeats 4000000 in
theorem wl_r59 : ∀ w ∈ wsL_law0_r59, w ∈ lw_tbl := mem_g _ [10, 93, 261, 329, 0, 0, 0, 0, 0, 0, 0, 0, 0, 0, 1, 1, 0, 1211, 0, 0, 0, 0, 1, 0] [22, 9, 19, 0, 1, 2, 11, 12, 13, 14, 15, 16, 17, 18, 20, 21, 23, 3, 4, 5, 6, 7, 8, 10] rfl (by decide +kernel)
set_option maxRecDepth 100000 in
set_option maxHeartbeats 4000000 in
theorem wl_r60 : ∀ w ∈ wsL_law0_r60, w ∈ lw_tbl := mem_g _ [11, 0, 0, 91, 606, 9, 37, 1, 0, 1, 1, 0, 9, 1, 0, 534, 614, 0, 0, 0, 0, 1, 0, 0] [4, 8, 12, 21, 0, 1, 2, 3, 5, 6, 7, 9, 10, 11, 13, 18, 14, 15, 16, 17, 19, 20, 22, 23] rfl (by decide +kernel)
set_option maxRecDepth 100000 in
set_option maxHeartbeats 4000000 in
theorem wl_r61 : ∀ w ∈ wsL_law0_r61, w ∈ lw_tbl := mem_g _ [106, 0, 0, 0, 0, 0, 1829, 0, 0, 1, 0, 0, 0, 1, 0, 0, 1, 0, 0, 1, 0, 0, 1, 0] [1, 5, 10, 14, 18, 22, 0, 2, 3, 4, 6, 7, 8, 9, 11, 12, 13, 15, 16, 17, 19, 20, 21, 23] rfl (by decide +kernel)
set_option maxRecDepth 100000 in
set_option maxHeartbeats 4000000 in
theorem wl_r62 : ∀ w ∈ wsL_law0_r62, w ∈ lw_tbl := mem_g _ [1277, 0, 0, 0, 0, 0, 0, 680, 0, 0, 0] [0, 1, 2, 3, 4, 5, 6, 7, 8, 9, 10] rfl (by decide +kernel)
set_option maxRecDepth 100000 in
set_option maxHeartbeats 4000000 in
theorem wl_X7 : ∀ w ∈ wsX70, w ∈ lw_tbl := mem_g _ [409, 1, 1, 1, 1, 1, 1, 1, 1, 1, 1] [0, 1, 2, 3, 4, 5, 6, 7, 8, 9, 10] rfl (by decide +kernel)
set_option maxRecDepth 100000 in
set_option maxHeartbeats 4000000 in
theorem wl_X8 : ∀ w ∈ wsX80, w ∈ lw_tbl := mem_g _ [1317, 1, 1, 1, 1, 1, 1, 1, 1, 1, 1, 1, 1, 1, 1, 1, 1, 1, 1, 1, 1, 1, 1, 1, 1, 1, 1] [0, 1, 2, 3, 4, 5, 6, 7, 8, 9, 10, 11, 12, 13, 14, 15, 16, 17, 18, 19, 20, 21, 22, 23, 24, 25, 26] rfl (by decide +kernel)
set_option maxRecDepth 100000 in
set_option maxHeartbeats 4000000 in
theorem wl_X2 : ∀ w ∈ wsX20, w ∈ lw_tbl := mem_g _ [224, 1, 1, 1, 1, 1, 1, 1, 1, 1, 1, 1, 1, 1] [0, 1, 2, 3, 4, 5, 6, 7, 8, 9, 10, 11, 12, 13] rfl (by decide +kernel)
set_option maxRecDepth 100000 in
set_option maxHeartbeats 4000000 in
theorem wl_X3 : ∀ w ∈ wsX30, w ∈ lw_tbl := mem_g _ [267, 1, 1, 1] [0, 1, 2, 3] rfl (by decide +kernel)
set_option maxRecDepth 100000 in
set_option maxHeartbeats 4000000 in
theorem wl_X0 : ∀ w ∈ wsX00, w ∈ lw_tbl := mem_g _ [290, 1, 1, 1] [0, 1, 2, 3] rfl (by decide +kernel)
set_option maxRecDepth 100000 in
set_option maxHeartbeats 4000000 in
theorem wl_X6 : ∀ w ∈ wsX60, w ∈ lw_tbl := mem_g _ [316, 1, 1, 1, 1] [0, 1, 2, 3, 4] rfl (by decide +kernel)
set_option maxRecDepth 100000 in
set_option maxHeartbeats 4000000 in
theorem wl_X4 : ∀ w ∈ wsX40, w ∈ lw_tbl := mem_g _ [345, 1, 1, 1, 1, 1] [0, 1, 2, 3, 4, 5] rfl (by decide +kernel)
set_option maxRecDepth 100000 in
set_option maxHeartbeats 4000000 in
theorem wl_X5 : ∀ w ∈ wsX50, w ∈ lw_tbl := mem_g _ [368, 1] [0, 1] rfl (by decide +kernel)
set_option maxRecDepth 100000 in
set_option maxHeartbeats 4000000 in
theorem wl_X1 : ∀ w ∈ wsX10, w ∈ lw_tbl := mem_g _ [173, 1, 1, 1, 1, 1, 1, 1] [0, 1, 2, 3, 4, 5, 6, 7] rfl (by decide +kernel)
theorem wl_00 : ∀ w ∈ (wsL_law0_r1 ++ (wsL_law0_r2 ++ (wsL_law0_r3 ++ (wsL_law0_r4 ++ (wsL_law0_r5 ++ (wsL_law0_r6 ++ (wsL_law0_r7 ++ (wsL_law0_r8 ++ (wsL_law0_r9 ++ (wsL_law0_r10 ++ (wsL_law0_r11 ++ (wsL_law0_r12 ++ (wsL_law0_r13 ++ (wsL_law0_r14 ++ (wsL_law0_r15 ++ (wsL_law0_r16 ++ (wsL_law0_r17 ++ (wsL_law0_r18 ++ (wsL_law0_r19 ++ (wsL_law0_r20 ++ (wsL_law0_r21 ++ (wsL_law0_r22 ++ (wsL_law0_r23 ++ (wsL_law0_r24 ++ (wsL_law0_r25 ++ (wsL_law0_r26 ++ (wsL_law0_r27 ++ (wsL_law0_r28 ++ (wsL_law0_r29 ++ (wsL_law0_r30 ++ (wsL_law0_r31 ++ (wsL_law0_r32 ++ (wsL_law0_r33 ++ (wsL_law0_r34 ++ (wsL_law0_r35 ++ (wsL_law0_r36 ++ (wsL_law0_r37 ++ (wsL_law0_r38 ++ (wsL_law0_r39 ++ (wsL_law0_r40 ++ (wsL_law0_r41 ++ (wsL_law0_r42 ++ (wsL_law0_r43 ++ (wsL_law0_r44 ++ (wsL_law0_r45 ++ (wsL_law0_r46 ++ (wsL_law0_r47 ++ (wsL_law0_r48 ++ (wsL_law0_r49 ++ (wsL_law0_r50 ++ (wsL_law0_r51 ++ (wsL_law0_r52 ++ (wsL_law0_r53 ++ (wsL_law0_r54 ++ (wsL_law0_r55 ++ (wsL_law0_r56 ++ (wsL_law0_r57 ++ (wsL_law0_r58 ++ (wsL_law0_r59 ++ (wsL_law0_r60 ++ (wsL_law0_r61 ++ wsL_law0_r62))))))))))))))))))))))))))))))))))))))))))))))))))))))))))))), w ∈ lw_tbl := fun w h => (List.mem_append.mp h).elim (fun h => wl_r1 w h) (fun h => (List.mem_append.mp h).elim (fun h => wl_r2 w h) (fun h => (List.mem_append.mp h).elim (fun h => wl_r3 w h) (fun h => (List.mem_append.mp h).elim (fun h => wl_r4 w h) (fun h => (List.mem_append.mp h).elim (fun h => wl_r5 w h) (fun h => (List.mem_append.mp h).elim (fun h => wl_r6 w h) (fun h => (List.mem_append.mp h).elim (fun h => wl_r7 w h) (fun h => (List.mem_append.mp h).elim (fun h => wl_r8 w h) (fun h => (List.mem_append.mp h).elim (fun h => wl_r9 w h) (fun h => (List.mem_append.mp h).elim (fun h => wl_r10 w h) (fun h => (List.mem_append.mp h).elim (fun h => wl_r11 w h) (fun h => (List.mem_append.mp h).elim (fun h => wl_r12 w h) (fun h => (List.mem_append.mp h).elim (fun h => wl_r13 w h) (fun h => (List.mem_append.mp h).elim (fun h => wl_r14 w h) (fun h => (List.mem_append.mp h).elim (fun h => wl_r15 w h) (fun h => (List.mem_append.mp h).elim (fun h => wl_r16 w h) (fun h => (List.mem_append.mp h).elim (fun h => wl_r17 w h) (fun h => (List.mem_append.mp h).elim (fun h => wl_r18 w h) (fun h => (List.mem_append.mp h).elim (fun h => wl_r19 w h) (fun h => (List.mem_append.mp h).elim (fun h => wl_r20 w h) (fun h => (List.mem_append.mp h).elim (fun h => wl_r21 w h) (fun h => (List.mem_append.mp h).elim (fun h => wl_r22 w h) (fun h => (List.mem_append.mp h).elim (fun h => wl_r23 w h) (fun h => (List.mem_append.mp h).elim (fun h => wl_r24 w h) (fun h => (List.mem_append.mp h).elim (fun h => wl_r25 w h) (fun h => (List.mem_append.mp h).elim (fun h => wl_r26 w h) (fun h => (List.mem_append.mp h).elim (fun h => wl_r27 w h) (fun h => (List.mem_append.mp h).elim (fun h => wl_r28 w h) (fun h => (List.mem_append.mp h).elim (fun h => wl_r29 w h) (fun h => (List.mem_append.mp h).elim (fun h => wl_r30 w h) (fun h => (List.mem_append.mp h).elim (fun h => wl_r31 w h) (fun h => (List.mem_append.mp h).elim (fun h => wl_r32 w h) (fun h => (List.mem_append.mp h).elim (fun h => wl_r33 w h) (fun h => (List.mem_append.mp h).elim (fun h => wl_r34 w h) (fun h => (List.mem_append.mp h).elim (fun h => wl_r35 w h) (fun h => (List.mem_append.mp h).elim (fun h => wl_r36 w h) (fun h => (List.mem_append.mp h).elim (fun h => wl_r37 w h) (fun h => (List.mem_append.mp h).elim (fun h => wl_r38 w h) (fun h => (List.mem_append.mp h).elim (fun h => wl_r39 w h) (fun h => (List.mem_append.mp h).elim (fun h => wl_r40 w h) (fun h => (List.mem_append.mp h).elim (fun h => wl_r41 w h) (fun h => (List.mem_append.mp h).elim (fun h => wl_r42 w h) (fun h => (List.mem_append.mp h).elim (fun h => wl_r43 w h) (fun h => (List.mem_append.mp h).elim (fun h => wl_r44 w h) (fun h => (List.mem_append.mp h).elim (fun h => wl_r45 w h) (fun h => (List.mem_append.mp h).elim (fun h => wl_r46 w h) (fun h => (List.mem_append.mp h).elim (fun h => wl_r47 w h) (fun h => (List.mem_append.mp h).elim (fun h => wl_r48 w h) (fun h => (List.mem_append.mp h).elim (fun h => wl_r49 w h) (fun h => (List.mem_append.mp h).elim (fun h => wl_r50 w h) (fun h => (List.mem_append.mp h).elim (fun h => wl_r51 w h) (fun h => (List.mem_append.mp h).elim (fun h => wl_r52 w h) (fun h => (List.mem_append.mp h).elim (fun h => wl_r53 w h) (fun h => (List.mem_append.mp h).elim (fun h => wl_r54 w h) (fun h => (List.mem_append.mp h).elim (fun h => wl_r55 w h) (fun h => (List.mem_append.mp h).elim (fun h => wl_r56 w h) (fun h => (List.mem_append.mp h).elim (fun h => wl_r57 w h) (fun h => (List.mem_append.mp h).elim (fun h => wl_r58 w h) (fun h => (List.mem_append.mp h).elim (fun h => wl_r59 w h) (fun h => (List.mem_append.mp h).elim (fun h => wl_r60 w h) (fun h => (List.mem_append.mp h).elim (fun h => wl_r61 w h) (fun h => wl_r62 w h)))))))))))))))))))))))))))))))))))))))))))))))))))))))))))))
theorem wl_0 : ∀ w ∈ wsL_law0, w ∈ lw_tbl := fun w h => (List.mem_append.mp h).elim (fun h => (List.mem_append.mp h).elim (fun h => (List.mem_append.mp h).elim (fun h => (List.mem_append.mp h).elim (fun h => (List.mem_append.mp h).elim (fun h => (List.mem_append.mp h).elim (fun h => (List.mem_append.mp h).elim (fun h => (List.mem_append.mp h).elim (fun h => (List.mem_append.mp h).elim (fun h => (List.mem_append.mp h).elim (fun h => wl_00 w h) (fun h => wl_X7 w h)) (fun h => wl_X8 w h)) (fun h => wl_X2 w h)) (fun h => wl_X3 w h)) (fun h => wl_X0 w h)) (fun h => wl_X6 w h)) (fun h => wl_X4 w h)) (fun h => wl_X5 w h)) (fun h => wl_X1 w h)) (fun h => nomatch h)
theorem wl_x0 : ∀ w ∈ (vx_atN RX7 73 "java/lang/IllegalStateException" ["java/lang/RuntimeException", "java/lang/Exception"]).filter goodWord, w ∈ lw_tbl := by decide +kernel
theorem wl_x1 : ∀ w ∈ (vx_atN RX7 88 "java/lang/IllegalArgumentException" ["java/lang/RuntimeException", "java/lang/Exception"]).filter goodWord, w ∈ lw_tbl := by decide +kernel
theorem wl_x2 : ∀ w ∈ (vx_atN RX7 201 "java/util/NoSuchElementException" ["java/lang/RuntimeException", "java/lang/Exception"]).filter goodWord, w ∈ lw_tbl := by decide +kernel
theorem wl_x3 : ∀ w ∈ (vx_atN RX7 279 "java/lang/IndexOutOfBoundsException" ["java/lang/RuntimeException", "java/lang/Exception"]).filter goodWord, w ∈ lw_tbl := by decide +kernel
theorem wsL_law_in : ∀ w ∈ wsL_law, w ∈ lw_tbl := fun w h => (List.mem_append.mp h).elim (fun h => (List.mem_append.mp h).elim (fun h => (List.mem_append.mp h).elim (fun h => (List.mem_append.mp h).elim (fun h => wl_0 w h) (fun h => wl_x0 w h)) (fun h => wl_x1 w h)) (fun h => wl_x2 w h)) (fun h => wl_x3 w h)
theorem xb_in : ∀ w ∈ xbL, w ∈ lw_tbl := by decide +kernel
set_option maxRecDepth 100000 in
set_option maxHeartbeats 4000000 in
theorem nw_in : ∀ w ∈ nwL, w ∈ lw_tbl := mem_g _ [145, 5, 4, 5, 0, 0, 0, 1, 0, 0, 1, 0, 19, 0, 1, 0, 1, 0, 1, 1, 0, 0, 1, 1, 1, 1, 1, 1, 1, 1, 1, 37, 4, 11, 4, 3, 1, 11, 4, 2, 0, 1, 0, 1, 13, 4, 1, 1, 1, 1, 1, 15, 4, 1, 92, 8, 13, 6, 6, 160, 31, 73, 5, 11, 129, 40, 13, 0, 225] [46, 47, 0, 1, 2, 3, 4, 5, 6, 7, 8, 9, 10, 11, 12, 13, 14, 15, 16, 17, 18, 19, 20, 21, 22, 23, 24, 25, 26, 27, 28, 48, 29, 49, 50, 30, 31, 51, 32, 33, 34, 35, 36, 37, 52, 38, 39, 40, 41, 42, 43, 53, 44, 45, 54, 55, 56, 57, 58, 59, 60, 61, 62, 63, 64, 65, 66, 67, 68] rfl (by decide +kernel)
set_option maxRecDepth 100000 in
set_option maxHeartbeats 4000000 in
theorem st_in : ∀ w ∈ (strT.map fun q => Cond.stringRef q.1 q.2.1 q.2.2.1), w ∈ lw_tbl := mem_g _ [707, 61, 3, 0, 0, 0, 0, 152, 31] [5, 6, 0, 1, 2, 7, 8, 3, 4] rfl (by decide +kernel)
set_option maxRecDepth 100000 in
set_option maxHeartbeats 4000000 in
theorem sm_in : ∀ w ∈ (strM.map fun q => Cond.stringRef RX7 q.1 q.2), w ∈ lw_tbl := mem_g _ [834, 47, 86, 37, 16, 0, 7, 0, 7, 7, 10, 25, 21, 28, 22, 7, 1, 41] [0, 1, 2, 3, 15, 4, 5, 6, 7, 8, 11, 9, 10, 16, 12, 13, 14, 17] rfl (by decide +kernel)
set_option maxRecDepth 100000 in
set_option maxHeartbeats 4000000 in
theorem sx_in : ∀ w ∈ (strM.map fun q => Cond.exactly (.string RX7 q.1) "java/lang/String"), w ∈ (flatC narrow_1) := mem_g _ [115, 33, 56, 30, 29, 29, 33, 56, 36, 17, 32, 15, 32, 29, 36, 27, 31, 36] [0, 1, 2, 3, 15, 4, 5, 6, 7, 8, 11, 9, 10, 16, 12, 13, 14, 17] rfl (by decide +kernel)
set_option maxRecDepth 100000 in
set_option maxHeartbeats 4000000 in
theorem xe_in : ∀ w ∈ (exL.map fun E => Cond.castable E E), w ∈ lw_tbl := mem_g _ [794, 80, 204, 50] [0, 1, 2, 3] rfl (by decide +kernel)
def xnL : List (String × String) := [("java/lang/IllegalStateException", "java/lang/IllegalArgumentException"), ("java/lang/IllegalStateException", "java/util/NoSuchElementException"), ("java/lang/IllegalStateException", "java/lang/IndexOutOfBoundsException"), ("java/lang/IllegalArgumentException", "java/lang/IllegalStateException"), ("java/lang/IllegalArgumentException", "java/util/NoSuchElementException"), ("java/lang/IllegalArgumentException", "java/lang/IndexOutOfBoundsException"), ("java/util/NoSuchElementException", "java/lang/IllegalStateException"), ("java/util/NoSuchElementException", "java/lang/IllegalArgumentException"), ("java/util/NoSuchElementException", "java/lang/IndexOutOfBoundsException"), ("java/lang/IndexOutOfBoundsException", "java/lang/IllegalStateException"), ("java/lang/IndexOutOfBoundsException", "java/lang/IllegalArgumentException"), ("java/lang/IndexOutOfBoundsException", "java/util/NoSuchElementException")]
set_option maxRecDepth 100000 in
set_option maxHeartbeats 4000000 in
theorem xn_in : ∀ w ∈ (xnL.map fun q => Cond.not (.castable q.1 q.2)), w ∈ (flatC narrow_1) := mem_g _ [18, 0, 0, 9, 0, 0, 9, 0, 0, 9, 0, 0] [3, 6, 9, 0, 7, 10, 1, 4, 11, 2, 5, 8] rfl (by decide +kernel)
def w1L : List Cond := [.initialized "java/lang/String", .initialized "jdk/internal/util/Preconditions", .initialized Bundle.tN, .laysStatic "java/lang/String" "COMPACT_STRINGS" "Z", .laysStatic "jdk/internal/util/Preconditions" "SIOOBE_FORMATTER" "Ljava/util/function/BiFunction;", .laysStatic Bundle.tN "UNASSIGNED_STACK" Bundle.steD, .laysStatic Bundle.tN "SUPPRESSED_SENTINEL" Bundle.listD, .arrayOver (.object "LzwCodec$Encoder"), .arrayClass .int, .arrayClass .byte, .arrayClass .boolean, .arrayClass .long, .instantiable RX0 4, .instantiable RX1 8, .instantiable RX2 14, .instantiable RX3 4, .instantiable RX4 6, .instantiable RX5 2, .instantiable RX6 5, .instantiable RX7 11, .instantiable RX8 27]
set_option maxRecDepth 100000 in
set_option maxHeartbeats 4000000 in
theorem w1_in : ∀ w ∈ w1L, w ∈ lw_tbl := mem_g _ [122, 4, 1, 6, 7, 5, 39, 63, 5, 16, 22, 27, 30, 361, 15, 45, 35, 1, 463, 86, 595] [2, 0, 1, 19, 14, 13, 8, 15, 7, 12, 18, 16, 17, 3, 4, 9, 5, 6, 20, 10, 11] rfl (by decide +kernel)
def n1L : List Cond := [.eq (.static "java/lang/String" "COMPACT_STRINGS" "Z") (.int 1), .isRef (.static "jdk/internal/util/Preconditions" "SIOOBE_FORMATTER" "Ljava/util/function/BiFunction;"), .isRef (.static Bundle.tN "UNASSIGNED_STACK" Bundle.steD), .isRef (.static Bundle.tN "SUPPRESSED_SENTINEL" Bundle.listD)]
set_option maxRecDepth 100000 in
set_option maxHeartbeats 4000000 in
theorem n1_in : ∀ w ∈ n1L, w ∈ (flatC narrow_1) := mem_g _ [2, 0, 3, 0] [0, 1, 2, 3] rfl (by decide +kernel)
def sC (own : String) (k : Nat) (bs : List Int32) : List Cond := [.exactly (.string own k) "java/lang/String", .eq (.field (.string own k) "java/lang/String" "coder" "B") (.int 0), .arrayOf (.field (.string own k) "java/lang/String" "value" "[B") .byte, .eq (.length (.field (.string own k) "java/lang/String" "value" "[B")) (.int (Int32.ofNat bs.length))] ++ (List.range bs.length).map (fun j => .eq (.elem (.field (.string own k) "java/lang/String" "value" "[B") (.int (Int32.ofNat j))) (.int (bs.getD j 0)))
set_option maxRecDepth 100000 in
set_option maxHeartbeats 4000000 in
theorem sc_0 : ∀ w ∈ sC RX7 351 (bytT.getD 0 []), w ∈ flatC narrow_1 := mem_g _ [70, 0, 0, 0, 0, 0, 0, 0, 0, 0] [0, 1, 2, 3, 4, 5, 6, 7, 8, 9] rfl (by decide +kernel)
set_option maxRecDepth 100000 in
set_option maxHeartbeats 4000000 in
theorem sc_1 : ∀ w ∈ sC RX7 353 (bytT.getD 1 []), w ∈ flatC narrow_1 := mem_g _ [80, 0, 0, 0, 0, 0, 0, 0, 0] [0, 1, 2, 3, 4, 5, 6, 7, 8] rfl (by decide +kernel)
set_option maxRecDepth 100000 in
set_option maxHeartbeats 4000000 in
theorem sc_2 : ∀ w ∈ sC RX7 355 (bytT.getD 2 []), w ∈ flatC narrow_1 := mem_g _ [89, 0, 0, 0, 0, 0, 0, 0, 0] [0, 1, 2, 3, 4, 5, 6, 7, 8] rfl (by decide +kernel)
set_option maxRecDepth 100000 in
set_option maxHeartbeats 4000000 in
theorem sc_3 : ∀ w ∈ sC RX4 34 (bytT.getD 3 []), w ∈ flatC narrow_1 := mem_g _ [188, 0, 0, 0, 0, 0, 0] [0, 1, 2, 3, 4, 5, 6] rfl (by decide +kernel)
set_option maxRecDepth 100000 in
set_option maxHeartbeats 4000000 in
theorem sc_4 : ∀ w ∈ sC RX4 74 (bytT.getD 4 []), w ∈ flatC narrow_1 := mem_g _ [195, 0, 0, 0, 0, 0, 0, 0, 0, 0, 0] [0, 1, 2, 3, 4, 5, 6, 7, 8, 9, 10] rfl (by decide +kernel)
set_option maxRecDepth 100000 in
set_option maxHeartbeats 4000000 in
theorem sc_5 : ∀ w ∈ sC RX5 19 (bytT.getD 5 []), w ∈ flatC narrow_1 := mem_g _ [57, 0, 0, 0, 0, 0, 0, 0] [0, 1, 2, 3, 4, 5, 6, 7] rfl (by decide +kernel)
set_option maxRecDepth 100000 in
set_option maxHeartbeats 4000000 in
theorem sc_6 : ∀ w ∈ sC RX5 40 (bytT.getD 6 []), w ∈ flatC narrow_1 := mem_g _ [65, 0, 0, 0, 0] [0, 1, 2, 3, 4] rfl (by decide +kernel)
set_option maxRecDepth 100000 in
set_option maxHeartbeats 4000000 in
theorem sc_7 : ∀ w ∈ sC RX5 55 (bytT.getD 7 []), w ∈ flatC narrow_1 := mem_g _ [98, 0, 0, 0, 0] [0, 1, 2, 3, 4] rfl (by decide +kernel)
set_option maxRecDepth 100000 in
set_option maxHeartbeats 4000000 in
theorem sc_8 : ∀ w ∈ sC RX5 60 (bytT.getD 8 []), w ∈ flatC narrow_1 := mem_g _ [103, 0, 0, 0, 0, 0, 0, 0, 0, 0, 0, 0] [0, 1, 2, 3, 4, 5, 6, 7, 8, 9, 10, 11] rfl (by decide +kernel)
