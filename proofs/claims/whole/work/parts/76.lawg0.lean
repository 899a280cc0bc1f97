def pickG {α : Type} : List Nat → List α → List α
  | [], _ => []
  | g :: gs, l => match l.drop g with
    | [] => []
    | x :: t => x :: pickG gs t
theorem pickG_mem {α : Type} {w : α} : ∀ (gs : List Nat) (l : List α), w ∈ pickG gs l → w ∈ l
  | [], l, h => nomatch h
  | g :: gs, l, h => by
    unfold pickG at h
    cases hd : l.drop g with
    | nil => rw [hd] at h; cases h
    | cons x t =>
      rw [hd] at h
      have hm : ∀ y ∈ x :: t, y ∈ l := fun y hy => List.mem_of_mem_drop (by rw [hd]; exact hy)
      rcases List.mem_cons.mp h with h | h
      · rw [h]; exact hm x (List.mem_cons_self ..)
      · exact hm w (List.mem_cons_of_mem _ (pickG_mem gs t h))
theorem goodIn_g {big : List Cond} (ws : List Cond) (gs js : List Nat) (hp : pickG gs big = js.filterMap (fun i => ws[i]?)) (hc : (List.range ws.length).all (fun i => js.contains i) = true) (h : ws.all goodWord = true) : GoodIn big ws := by
  refine goodIn_sub (fun w hw => pickG_mem gs big ?_) h
  obtain ⟨i, hi⟩ := List.getElem?_of_mem hw
  have hl := (List.getElem?_eq_some_iff.mp hi).1
  have h1 := List.all_eq_true.mp hc i (List.mem_range.mpr hl)
  rw [hp]
  exact List.mem_filterMap.mpr ⟨i, List.contains_iff_mem.mp h1, hi⟩
set_option maxRecDepth 100000 in
set_option maxHeartbeats 4000000 in
theorem ggL_law_X7_init : GoodIn wsL_law wsX7_init := goodIn_g _ [9, 0, 0, 0, 0, 0, 0, 0, 0, 0, 0, 0, 0, 0, 0, 0, 0, 0, 0, 0, 0, 0, 0, 0, 0, 0, 0, 0, 0, 0, 0, 0, 0, 0, 0, 0, 0, 0, 0, 0, 0, 0, 0, 0, 0, 0, 0, 0, 0, 0, 0, 0, 0, 0, 0, 0, 0, 0, 0, 0, 0, 0, 0, 0, 0, 0, 0, 0, 0, 0, 0, 0, 0, 0, 0, 0, 0, 0, 0, 0, 0, 0, 0, 0, 0, 0, 0, 0, 0, 0, 0, 0, 0, 0, 0, 0, 0, 0, 0, 0, 0, 0, 0, 0, 0, 0, 0, 0, 0, 0, 0, 0, 0, 0, 1352, 0, 0, 0, 0, 0, 0, 0, 0, 0, 0, 27, 0, 0, 0, 0, 0, 0, 0, 0, 0, 0, 0, 0, 0, 0, 0, 0, 0, 0, 0, 0, 0, 0, 0, 0, 0, 0, 0, 0, 0, 0, 0, 0, 0, 0, 0, 0, 0, 0, 0, 0, 0, 0] [0, 1, 2, 3, 4, 5, 6, 7, 8, 9, 10, 11, 12, 13, 14, 15, 16, 17, 18, 19, 20, 21, 22, 23, 24, 25, 26, 27, 28, 29, 30, 31, 32, 33, 34, 35, 36, 37, 38, 39, 40, 41, 42, 43, 44, 45, 46, 47, 48, 49, 50, 51, 52, 53, 54, 55, 56, 57, 58, 59, 60, 61, 62, 63, 64, 65, 66, 67, 68, 69, 70, 71, 72, 73, 74, 75, 76, 77, 78, 79, 80, 81, 82, 83, 84, 85, 86, 87, 88, 89, 90, 91, 92, 93, 94, 95, 96, 97, 98, 99, 100, 101, 102, 103, 104, 105, 106, 107, 108, 109, 110, 111, 112, 113, 114, 115, 116, 117, 118, 119, 120, 121, 122, 123, 124, 125, 126, 127, 128, 129, 130, 131, 132, 133, 134, 135, 136, 137, 138, 139, 140, 141, 142, 143, 144, 145, 146, 147, 148, 149, 150, 151, 152, 153, 154, 155, 156, 157, 158, 159, 160, 161, 162, 163, 164, 165, 166, 167] rfl (by decide +kernel) (by decide +kernel)
set_option maxRecDepth 100000 in
set_option maxHeartbeats 4000000 in
theorem gL_law_X7_init : GoodIn wsL_law (wsX7_init) := ggL_law_X7_init
set_option maxRecDepth 100000 in
set_option maxHeartbeats 4000000 in
theorem ggL_law_X8_init : GoodIn wsL_law wsX8_init := goodIn_g _ [11, 0, 0, 111, 0, 0, 0, 0, 0, 0, 0, 0, 0, 0, 0, 0, 0, 0, 0, 1345, 0, 0, 0, 0, 0, 0, 0, 0, 0, 0, 0, 0, 0, 0, 0, 0, 0, 0, 0, 0, 0, 0, 0, 0, 0, 0] [2, 3, 7, 0, 1, 4, 5, 6, 8, 9, 10, 11, 12, 13, 14, 15, 16, 17, 18, 19, 20, 21, 22, 23, 24, 25, 26, 27, 28, 29, 30, 31, 32, 33, 34, 35, 36, 37, 38, 39, 40, 41, 42, 43, 44, 45] rfl (by decide +kernel) (by decide +kernel)
set_option maxRecDepth 100000 in
set_option maxHeartbeats 4000000 in
theorem gL_law_X8_init : GoodIn wsL_law (wsX8_init) := ggL_law_X8_init
set_option maxRecDepth 100000 in
set_option maxHeartbeats 4000000 in
theorem ggL_law_L_append : GoodIn wsL_law wsL_append := goodIn_ca (goodIn_g _ [2, 11, 129, 0, 0, 0, 0, 0, 0, 0, 0, 0, 0, 0, 0, 0, 0, 0, 1315, 0, 0, 0, 0, 0, 0, 0, 0, 0, 0] [5, 14, 0, 1, 2, 3, 4, 6, 7, 8, 9, 10, 11, 12, 13, 15, 16, 17, 18, 19, 20, 21, 22, 23, 24, 25, 26, 27, 28] rfl (by decide +kernel) (by decide +kernel)) (goodIn_sub (fun _ h => List.mem_append_left _ (List.mem_append_left _ (List.mem_append_left _ (List.mem_append_right _ h)))) (by decide +kernel))
set_option maxRecDepth 100000 in
set_option maxHeartbeats 4000000 in
theorem gL_law_L_append : GoodIn wsL_law (va_wsS RL 110 yL_append wsL_append) := goodIn_app (goodIn_g _ [141, 0, 0] [0, 1, 2] rfl (by decide +kernel) (by decide +kernel)) ggL_law_L_append
set_option maxRecDepth 100000 in
set_option maxHeartbeats 4000000 in
theorem ggL_law_X8_append : GoodIn wsL_law wsX8_append := goodIn_g _ [5, 122, 34, 0, 0, 0, 0, 0, 0, 0, 0, 0, 0, 0, 0, 0, 0, 1308, 0, 0, 0, 0, 0, 0, 0, 0, 0, 0, 0, 0, 0, 0, 0, 0, 0, 0, 0, 0, 0, 0, 0, 0, 0, 0] [5, 12, 0, 1, 2, 3, 4, 6, 7, 8, 9, 10, 11, 13, 14, 15, 16, 17, 18, 19, 20, 21, 22, 23, 24, 25, 26, 27, 28, 29, 30, 31, 32, 33, 34, 35, 36, 37, 38, 39, 40, 41, 42, 43] rfl (by decide +kernel) (by decide +kernel)
set_option maxRecDepth 100000 in
set_option maxHeartbeats 4000000 in
theorem gL_law_X8_append : GoodIn wsL_law (wsV RL 115 RX8 yX8_append wsX8_append) := goodIn_app (goodIn_g _ [5, 154, 0, 0] [3, 0, 1, 2] rfl (by decide +kernel) (by decide +kernel)) ggL_law_X8_append
set_option maxRecDepth 100000 in
set_option maxHeartbeats 4000000 in
theorem ggL_law_X8_thrown : GoodIn wsL_law wsX8_thrown := goodIn_g _ [169, 11, 1304, 0, 0, 0, 0, 0, 0, 0, 0, 0, 0, 0, 0, 0, 0, 0, 0, 0, 0, 0, 0, 0, 0, 0, 0, 0, 0] [1, 0, 2, 3, 4, 5, 6, 7, 8, 9, 10, 11, 12, 13, 14, 15, 16, 17, 18, 19, 20, 21, 22, 23, 24, 25, 26, 27, 28] rfl (by decide +kernel) (by decide +kernel)
set_option maxRecDepth 100000 in
set_option maxHeartbeats 4000000 in
theorem gL_law_X8_thrown : GoodIn wsL_law (wsV RL 116 RX8 yX8_thrown wsX8_thrown) := goodIn_app (goodIn_g _ [5, 172, 0, 0] [3, 0, 1, 2] rfl (by decide +kernel) (by decide +kernel)) ggL_law_X8_thrown
set_option maxRecDepth 100000 in
set_option maxHeartbeats 4000000 in
theorem ggL_law_L_truncate : GoodIn wsL_law wsL_truncate := goodIn_ca (goodIn_g _ [2, 149, 31, 0, 0, 0, 0, 0, 0, 0, 1283, 0, 0, 0, 0, 0, 0, 0, 0, 0, 0] [5, 9, 0, 1, 2, 3, 4, 6, 7, 8, 10, 11, 12, 13, 14, 15, 16, 17, 18, 19, 20] rfl (by decide +kernel) (by decide +kernel)) (goodIn_sub (fun _ h => List.mem_append_left _ (List.mem_append_left _ (List.mem_append_right _ h))) (by decide +kernel))
set_option maxRecDepth 100000 in
set_option maxHeartbeats 4000000 in
theorem gL_law_L_truncate : GoodIn wsL_law (va_wsS RL 119 yL_truncate wsL_truncate) := goodIn_app (goodIn_g _ [143, 38, 0] [2, 0, 1] rfl (by decide +kernel) (by decide +kernel)) ggL_law_L_truncate
set_option maxRecDepth 100000 in
set_option maxHeartbeats 4000000 in
theorem ggL_law_X8_truncate : GoodIn wsL_law wsX8_truncate := goodIn_g _ [5, 158, 0, 0, 0, 0, 0, 4, 0, 0, 0, 17, 0, 0, 0, 1287, 0, 0, 0, 0, 0, 0, 0, 0, 0, 0, 0, 0, 0, 0, 0, 0, 0, 0, 0, 0, 0, 0, 0, 0, 0, 0] [4, 1, 6, 7, 8, 9, 10, 11, 12, 13, 14, 0, 2, 3, 5, 15, 16, 17, 18, 19, 20, 21, 22, 23, 24, 25, 26, 27, 28, 29, 30, 31, 32, 33, 34, 35, 36, 37, 38, 39, 40, 41] rfl (by decide +kernel) (by decide +kernel)
set_option maxRecDepth 100000 in
set_option maxHeartbeats 4000000 in
theorem gL_law_X8_truncate : GoodIn wsL_law (wsV RL 122 RX8 yX8_truncate wsX8_truncate) := goodIn_app (goodIn_g _ [5, 186, 0, 0] [3, 0, 1, 2] rfl (by decide +kernel) (by decide +kernel)) ggL_law_X8_truncate
set_option maxRecDepth 100000 in
set_option maxHeartbeats 4000000 in
theorem ggL_law_L_load : GoodIn wsL_law wsL_load := goodIn_ca (goodIn_g _ [2, 11, 2, 0, 2, 0, 7, 0, 2, 0, 4, 5, 0, 0, 0, 0, 0, 3, 0, 0, 0, 0, 16, 0, 3, 4, 0, 0, 0, 0, 0, 0, 0, 0, 0, 0, 0, 0, 0, 0, 0, 0, 0, 0, 0, 0, 0, 0, 0, 0, 0, 0, 0, 0, 0, 0, 0, 0, 0, 0, 0, 0, 29, 5, 0, 25, 4, 0, 9, 0, 0, 0, 0, 0, 0, 0, 0, 0, 0, 0, 0, 0, 0, 0, 0, 0, 0, 0, 0, 0, 0, 0, 0, 0, 0, 0, 0, 0, 0, 0, 0, 0, 0, 0, 0, 0, 0, 0, 0, 0, 0, 0, 0, 0, 0, 0, 0, 0, 0, 0, 0, 0, 0, 0, 0, 0, 0, 0, 0, 0, 0, 0, 0, 0, 0, 0, 0, 0, 0, 0, 0, 0, 0, 0, 0, 0, 0, 0, 0, 0, 0, 0, 0, 0, 0, 0, 0, 0, 0, 0, 0, 0, 0, 0, 0, 0, 0, 0, 0, 0, 0, 0, 0, 0, 0, 0, 0, 0, 0, 0, 0, 0, 0, 0, 0, 0, 0, 0, 0, 0, 0, 0, 0, 0, 0, 0, 0, 0, 0, 0, 0, 0, 0, 0, 0, 0, 0, 0, 0, 0, 0, 0, 0, 0, 0, 0, 0, 0, 0, 0, 0, 0, 0, 0, 0, 0, 0, 0, 0, 0, 0, 0, 0, 0, 0, 0, 0, 0, 0, 0, 0, 0, 0, 0, 0, 0, 0, 0, 0, 0, 0, 0, 0, 0, 0, 0, 0, 0, 0, 0, 0, 0, 0, 0, 0, 0, 0, 0, 0, 0, 1072, 0, 0, 0, 0, 0, 0, 0, 0, 0, 0, 27, 0, 0, 0, 0, 0, 0, 0, 0, 0, 0, 0, 0, 0, 0, 0, 0, 0, 4, 0, 0, 0, 0, 0, 0, 0, 0, 0, 0, 2, 0, 0, 0, 0, 0, 0, 0] [5, 10, 153, 14, 266, 15, 20, 9, 30, 12, 13, 161, 155, 182, 200, 252, 253, 174, 175, 176, 177, 209, 22, 24, 147, 150, 151, 152, 154, 156, 157, 158, 159, 160, 162, 163, 164, 165, 166, 167, 168, 169, 170, 171, 172, 173, 178, 179, 180, 181, 183, 184, 185, 186, 187, 188, 189, 190, 191, 192, 193, 194, 11, 148, 149, 1, 7, 8, 0, 2, 3, 4, 6, 16, 17, 18, 19, 21, 23, 25, 26, 27, 28, 29, 31, 32, 33, 34, 35, 36, 37, 38, 39, 40, 41, 42, 43, 44, 45, 46, 47, 48, 49, 50, 51, 52, 53, 54, 55, 56, 57, 58, 59, 60, 61, 62, 63, 64, 65, 66, 67, 68, 69, 70, 71, 72, 73, 74, 75, 76, 77, 78, 79, 80, 81, 82, 83, 84, 85, 86, 87, 88, 89, 90, 91, 92, 93, 94, 95, 96, 97, 98, 99, 100, 101, 102, 103, 104, 105, 106, 107, 108, 109, 110, 111, 112, 113, 114, 115, 116, 117, 118, 119, 120, 121, 122, 123, 124, 125, 126, 127, 128, 129, 130, 131, 132, 133, 134, 135, 136, 137, 138, 139, 140, 141, 142, 143, 144, 145, 146, 195, 196, 197, 198, 199, 201, 202, 203, 204, 205, 206, 207, 208, 210, 211, 212, 213, 214, 215, 216, 217, 218, 219, 220, 221, 222, 223, 224, 225, 226, 227, 228, 229, 230, 231, 232, 233, 234, 235, 236, 237, 238, 239, 240, 241, 242, 243, 244, 245, 246, 247, 248, 249, 250, 251, 254, 255, 256, 257, 258, 259, 260, 261, 262, 263, 264, 265, 267, 268, 269, 270, 271, 272, 273, 274, 275, 276, 277, 278, 279, 280, 292, 293, 294, 295, 296, 297, 298, 299, 300, 301, 302, 303, 304, 305, 314, 315, 316, 317, 281, 282, 283, 284, 285, 286, 287, 288, 289, 290, 291, 306, 307, 308, 309, 310, 311, 312, 313] rfl (by decide +kernel) (by decide +kernel)) (goodIn_sub (fun _ h => List.mem_append_left _ (List.mem_append_left _ (List.mem_append_right _ h))) (by decide +kernel))
set_option maxRecDepth 100000 in
set_option maxHeartbeats 4000000 in
theorem gL_law_L_load : GoodIn wsL_law (va_wsS RL 123 yL_load wsL_load) := goodIn_app (goodIn_g _ [143, 55, 0] [2, 0, 1] rfl (by decide +kernel) (by decide +kernel)) ggL_law_L_load
set_option maxRecDepth 100000 in
set_option maxHeartbeats 4000000 in
theorem ggL_law_X8_load : GoodIn wsL_law wsX8_load := goodIn_g _ [5, 122, 0, 0, 0, 3, 28, 0, 0, 0, 0, 0, 4, 0, 0, 0, 18, 0, 0, 207, 0, 0, 0, 0, 0, 0, 0, 0, 0, 0, 0, 0, 0, 0, 0, 0, 0, 0, 0, 0, 0, 0, 0, 0, 0, 0, 0, 0, 0, 0, 0, 0, 0, 0, 0, 0, 0, 0, 0, 0, 0, 0, 0, 0, 0, 0, 0, 0, 0, 0, 0, 0, 0, 0, 0, 0, 0, 0, 0, 0, 0, 0, 0, 0, 0, 0, 0, 0, 0, 0, 0, 0, 0, 0, 0, 0, 0, 0, 0, 0, 0, 0, 0, 0, 0, 0, 0, 0, 0, 0, 0, 0, 0, 0, 0, 0, 0, 0, 0, 0, 0, 0, 0, 0, 0, 0, 0, 0, 0, 0, 0, 0, 0, 0, 0, 0, 0, 0, 0, 0, 0, 0, 0, 0, 0, 0, 0, 0, 0, 0, 0, 0, 0, 0, 0, 0, 0, 0, 0, 0, 0, 0, 0, 0, 0, 0, 0, 0, 0, 0, 0, 0, 0, 0, 0, 0, 0, 0, 0, 0, 0, 0, 0, 0, 0, 0, 0, 0, 0, 0, 0, 0, 0, 0, 0, 0, 0, 0, 0, 0, 0, 0, 0, 0, 0, 0, 0, 0, 0, 0, 0, 0, 0, 0, 885, 0, 0, 0, 0, 0, 0, 0, 0, 0, 0, 0, 0, 0, 0, 0, 0, 0, 0, 0, 0, 0, 0, 0, 0, 0, 0] [11, 24, 19, 1, 13, 6, 4, 205, 206, 207, 208, 209, 210, 211, 212, 213, 60, 61, 62, 0, 2, 3, 5, 7, 8, 9, 10, 12, 14, 15, 16, 17, 18, 20, 21, 22, 23, 25, 26, 27, 28, 29, 30, 31, 32, 33, 34, 35, 36, 37, 38, 39, 40, 41, 42, 43, 44, 45, 46, 47, 48, 49, 50, 51, 52, 53, 54, 55, 56, 57, 58, 59, 63, 64, 65, 66, 67, 68, 69, 70, 71, 72, 73, 74, 75, 76, 77, 78, 79, 80, 81, 82, 83, 84, 85, 86, 87, 88, 89, 90, 91, 92, 93, 94, 95, 96, 97, 98, 99, 100, 101, 102, 103, 104, 105, 106, 107, 108, 109, 110, 111, 112, 113, 114, 115, 116, 117, 118, 119, 120, 121, 122, 123, 124, 125, 126, 127, 128, 129, 130, 131, 132, 133, 134, 135, 136, 137, 138, 139, 140, 141, 142, 143, 144, 145, 146, 147, 148, 149, 150, 151, 152, 153, 154, 155, 156, 157, 158, 159, 160, 161, 162, 163, 164, 165, 166, 167, 168, 169, 170, 171, 172, 173, 174, 175, 176, 177, 178, 179, 180, 181, 182, 183, 184, 185, 186, 187, 188, 189, 190, 191, 192, 193, 194, 195, 196, 197, 198, 199, 200, 201, 202, 203, 204, 214, 215, 216, 217, 218, 219, 220, 221, 222, 223, 224, 225, 226, 227, 228, 229, 230, 231, 232, 233, 234, 235, 236, 237, 238, 239, 240] rfl (by decide +kernel) (by decide +kernel)
set_option maxRecDepth 100000 in
set_option maxHeartbeats 4000000 in
theorem gL_law_X8_load : GoodIn wsL_law (wsV RL 126 RX8 yX8_load wsX8_load) := goodIn_app (goodIn_g _ [5, 397, 0, 0] [3, 0, 1, 2] rfl (by decide +kernel) (by decide +kernel)) ggL_law_X8_load
set_option maxRecDepth 100000 in
set_option maxHeartbeats 4000000 in
theorem ggL_law_L_decode : GoodIn wsL_law wsL_decode := goodIn_ca (goodIn_g _ [2, 11, 3, 4, 2, 0, 2, 0, 8, 5, 8, 0, 0, 0, 0, 10, 0, 0, 3, 0, 15, 0, 0, 0, 0, 0, 0, 0, 0, 0, 0, 0, 0, 0, 45, 5, 0, 25, 4, 0, 14, 0, 0, 0, 0, 0, 0, 0, 12, 0, 0, 0, 0, 0, 0, 0, 0, 0, 0, 0, 0, 0, 0, 0, 0, 0, 0, 0, 0, 0, 58, 0, 0, 34, 0, 0, 5, 0, 0, 0, 0, 0, 0, 7, 0, 0, 25, 0, 0, 0, 206, 0, 0, 0, 0, 0, 0, 0, 0, 0, 0, 0, 0, 0, 0, 0, 0, 0, 0, 0, 0, 0, 0, 0, 0, 0, 0, 0, 0, 0, 0, 0, 0, 0, 0, 0, 0, 0, 0, 0, 0, 0, 0, 0, 0, 0, 0, 0, 0, 0, 0, 0, 0, 0, 0, 0, 0, 815, 0, 0, 0, 0, 0, 0, 0, 0, 0, 0, 27, 0, 0, 0, 0, 0, 0, 0, 0, 0, 0, 0, 0, 0, 4, 0, 0, 0, 0, 0, 0, 0, 0, 8, 0, 0, 0, 0, 0, 0, 0] [5, 10, 13, 15, 30, 12, 20, 9, 14, 38, 51, 52, 53, 54, 117, 32, 33, 99, 22, 24, 36, 37, 39, 40, 41, 42, 43, 44, 45, 46, 47, 48, 49, 50, 11, 130, 131, 1, 7, 8, 16, 17, 18, 19, 21, 23, 25, 26, 60, 61, 62, 63, 64, 65, 66, 67, 68, 69, 70, 71, 72, 73, 74, 75, 76, 77, 78, 79, 80, 81, 83, 84, 85, 114, 115, 116, 119, 120, 121, 122, 123, 124, 125, 101, 102, 103, 127, 128, 129, 108, 0, 2, 3, 4, 6, 27, 28, 29, 31, 34, 35, 55, 56, 57, 58, 59, 82, 86, 87, 88, 89, 90, 91, 92, 93, 94, 95, 96, 97, 98, 100, 104, 105, 106, 107, 109, 110, 111, 112, 113, 118, 126, 132, 133, 134, 135, 136, 137, 138, 139, 140, 141, 142, 143, 144, 145, 146, 147, 148, 149, 150, 151, 152, 153, 154, 155, 156, 157, 158, 159, 160, 161, 162, 163, 164, 165, 166, 167, 168, 169, 170, 171, 177, 178, 179, 180, 172, 173, 174, 175, 176, 181, 182, 183, 184, 185, 186, 187, 188] rfl (by decide +kernel) (by decide +kernel)) (goodIn_sub (fun _ h => List.mem_append_left _ (List.mem_append_left _ (List.mem_append_right _ h))) (by decide +kernel))
set_option maxRecDepth 100000 in
set_option maxHeartbeats 4000000 in
theorem gL_law_L_decode : GoodIn wsL_law (va_wsS RL 127 yL_decode wsL_decode) := goodIn_app (goodIn_g _ [143, 457, 0] [2, 0, 1] rfl (by decide +kernel) (by decide +kernel)) ggL_law_L_decode
set_option maxRecDepth 100000 in
set_option maxHeartbeats 4000000 in
theorem ggL_law_X8_decode : GoodIn wsL_law wsX8_decode := goodIn_g _ [5, 122, 0, 0, 5, 0, 0, 0, 24, 0, 0, 0, 0, 0, 4, 0, 0, 0, 18, 0, 0, 208, 0, 1, 4, 0, 0, 0, 0, 0, 0, 0, 0, 0, 0, 0, 0, 0, 0, 0, 0, 0, 0, 0, 0, 0, 0, 0, 0, 0, 0, 9, 0, 0, 0, 67, 0, 0, 0, 15, 0, 0, 0, 8, 0, 0, 0, 106, 0, 0, 0, 0, 0, 0, 0, 0, 0, 0, 0, 0, 0, 0, 0, 0, 0, 0, 0, 0, 0, 0, 0, 0, 0, 0, 0, 0, 0, 0, 0, 0, 0, 0, 0, 0, 0, 0, 0, 0, 0, 0, 0, 0, 0, 0, 0, 0, 0, 0, 0, 0, 0, 0, 0, 767, 0, 0, 0, 0, 0, 0, 0, 0, 0, 0, 0, 0, 0, 0, 0, 0, 0, 0, 0, 0, 0, 0, 0, 0, 0, 0] [9, 17, 12, 39, 78, 95, 104, 118, 4, 109, 110, 111, 112, 113, 119, 120, 121, 122, 55, 56, 57, 1, 2, 5, 6, 7, 8, 10, 11, 13, 14, 15, 16, 18, 19, 20, 21, 22, 23, 24, 25, 26, 27, 28, 29, 30, 31, 32, 33, 34, 3, 105, 106, 107, 108, 47, 48, 49, 50, 79, 80, 81, 82, 66, 67, 68, 69, 0, 35, 36, 37, 38, 40, 41, 42, 43, 44, 45, 46, 51, 52, 53, 54, 58, 59, 60, 61, 62, 63, 64, 65, 70, 71, 72, 73, 74, 75, 76, 77, 83, 84, 85, 86, 87, 88, 89, 90, 91, 92, 93, 94, 96, 97, 98, 99, 100, 101, 102, 103, 114, 115, 116, 117, 123, 124, 125, 126, 127, 128, 129, 130, 131, 132, 133, 134, 135, 136, 137, 138, 139, 140, 141, 142, 143, 144, 145, 146, 147, 148, 149] rfl (by decide +kernel) (by decide +kernel)
set_option maxRecDepth 100000 in
set_option maxHeartbeats 4000000 in
theorem gL_law_X8_decode : GoodIn wsL_law (wsV RL 129 RX8 yX8_decode wsX8_decode) := goodIn_app (goodIn_g _ [5, 654, 0, 0] [3, 0, 1, 2] rfl (by decide +kernel) (by decide +kernel)) ggL_law_X8_decode
set_option maxRecDepth 100000 in
set_option maxHeartbeats 4000000 in
theorem ggL_law_X7_errorPosition : GoodIn wsL_law wsX7_errorPosition := goodIn_g _ [40, 681, 752, 0, 0, 0, 0, 0, 0, 0, 0, 0, 0] [1, 0, 2, 3, 4, 5, 6, 7, 8, 9, 10, 11, 12] rfl (by decide +kernel) (by decide +kernel)
set_option maxRecDepth 100000 in
set_option maxHeartbeats 4000000 in
theorem gL_law_X7_errorPosition : GoodIn wsL_law (wsV RL 130 RX7 yX7_errorPosition wsX7_errorPosition) := goodIn_app (goodIn_g _ [2, 716, 0, 0] [3, 0, 1, 2] rfl (by decide +kernel) (by decide +kernel)) ggL_law_X7_errorPosition
set_option maxRecDepth 100000 in
set_option maxHeartbeats 4000000 in
theorem ggL_law_X8_errorPosition : GoodIn wsL_law wsX8_errorPosition := goodIn_g _ [5, 123, 39, 4, 0, 0, 0, 548, 759, 0, 0, 0, 0, 0, 0, 0, 0, 0, 0, 0, 0, 0, 0, 0, 0, 0, 0, 0, 0, 0, 0, 0, 0, 0, 0] [5, 1, 7, 2, 3, 4, 6, 0, 8, 9, 10, 11, 12, 13, 14, 15, 16, 17, 18, 19, 20, 21, 22, 23, 24, 25, 26, 27, 28, 29, 30, 31, 32, 33, 34] rfl (by decide +kernel) (by decide +kernel)
set_option maxRecDepth 100000 in
set_option maxHeartbeats 4000000 in
theorem gL_law_X8_errorPosition : GoodIn wsL_law (wsV RL 133 RX8 yX8_errorPosition wsX8_errorPosition) := goodIn_app (goodIn_g _ [5, 717, 0, 0] [3, 0, 1, 2] rfl (by decide +kernel) (by decide +kernel)) ggL_law_X8_errorPosition
set_option maxRecDepth 100000 in
set_option maxHeartbeats 4000000 in
theorem ggL_law_L_encode : GoodIn wsL_law wsL_encode := goodIn_ca (goodIn_ca (goodIn_g _ [2, 14, 0, 2, 0, 23, 0, 0, 0, 0, 0, 3, 0, 0, 0, 0, 5, 24, 0, 4, 0, 1, 0, 0, 0, 0, 0, 0, 0, 4, 0, 0, 0, 0, 0, 0, 0, 0, 0, 0, 0, 22, 4, 0, 6, 0, 25, 4, 0, 37, 0, 103, 0, 0, 0, 0, 0, 0, 0, 0, 0, 0, 0, 0, 0, 0, 0, 0, 0, 0, 0, 0, 0, 0, 0, 0, 0, 0, 0, 0, 0, 0, 0, 0, 0, 0, 0, 0, 0, 0, 0, 0, 0, 0, 0, 0, 0, 0, 0, 0, 0, 0, 0, 0, 0, 0, 0, 0, 0, 0, 0, 0, 0, 0, 5, 247, 0, 0, 0, 0, 0, 0, 0, 0, 0, 69, 0, 0, 0, 0, 0, 0, 0, 0, 0, 0, 0, 0, 0, 0, 0, 0, 0, 0, 0, 0, 0, 0, 0, 0, 0, 0, 0, 0, 0, 0, 0, 0, 0, 0, 711, 0, 0, 0, 0, 0, 0, 0, 0, 0, 0, 27, 0, 0, 0, 0, 0, 0, 0, 0, 0, 0, 0, 0, 0, 0, 0, 0, 0, 17, 0, 0, 0, 0, 0, 0, 0] [6, 45, 10, 25, 11, 64, 47, 50, 52, 54, 55, 69, 70, 71, 72, 73, 41, 48, 49, 66, 67, 148, 149, 150, 68, 151, 152, 153, 154, 51, 53, 56, 57, 147, 143, 144, 145, 146, 58, 59, 60, 2, 8, 9, 137, 138, 1, 16, 17, 93, 94, 81, 82, 83, 84, 85, 86, 87, 88, 89, 90, 91, 92, 95, 96, 97, 98, 99, 100, 101, 102, 103, 104, 105, 106, 107, 108, 109, 110, 111, 112, 113, 114, 115, 116, 117, 118, 119, 120, 121, 122, 123, 124, 125, 126, 127, 128, 129, 130, 131, 132, 133, 134, 135, 136, 139, 140, 141, 142, 155, 156, 157, 158, 159, 28, 74, 75, 76, 30, 31, 32, 77, 78, 79, 80, 0, 3, 4, 5, 7, 12, 13, 14, 15, 18, 19, 20, 21, 22, 23, 24, 26, 27, 29, 33, 34, 35, 36, 37, 38, 39, 40, 42, 43, 44, 46, 61, 62, 63, 65, 160, 161, 162, 163, 164, 165, 166, 167, 168, 169, 170, 171, 172, 173, 174, 175, 176, 177, 178, 179, 180, 181, 182, 183, 184, 193, 194, 195, 196, 185, 186, 187, 188, 189, 190, 191, 192] rfl (by decide +kernel) (by decide +kernel)) (goodIn_sub (fun _ h => List.mem_append_left _ (List.mem_append_left _ (List.mem_append_left _ (List.mem_append_right _ h)))) (by decide +kernel))) (goodIn_sub (fun _ h => List.mem_append_left _ (List.mem_append_left _ (List.mem_append_right _ h))) (by decide +kernel))
set_option maxRecDepth 100000 in
set_option maxHeartbeats 4000000 in
theorem gL_law_L_encode : GoodIn wsL_law (va_wsS RL 134 yL_encode wsL_encode) := goodIn_app (goodIn_g _ [143, 583, 0] [2, 0, 1] rfl (by decide +kernel) (by decide +kernel)) ggL_law_L_encode
set_option maxRecDepth 100000 in
set_option maxHeartbeats 4000000 in
theorem ggL_law_X8_encode : GoodIn wsL_law wsX8_encode := goodIn_g _ [5, 124, 0, 0, 32, 0, 0, 0, 0, 4, 0, 0, 0, 18, 0, 0, 210, 1, 0, 0, 0, 70, 0, 0, 0, 17, 0, 0, 0, 4, 0, 0, 0, 0, 0, 0, 0, 0, 0, 0, 0, 0, 0, 0, 0, 0, 0, 0, 0, 0, 0, 0, 0, 0, 0, 0, 0, 0, 0, 0, 0, 0, 0, 0, 0, 0, 0, 0, 0, 0, 0, 0, 0, 0, 0, 0, 0, 0, 0, 0, 0, 0, 0, 0, 0, 0, 0, 0, 0, 0, 0, 0, 0, 0, 0, 0, 0, 0, 0, 0, 0, 0, 0, 0, 0, 0, 0, 0, 0, 0, 0, 0, 170, 0, 0, 0, 0, 714, 0, 0, 0, 0, 0, 0, 0, 0, 0, 0, 0, 0, 0, 0, 0, 0, 0, 0, 0, 0, 0, 0, 0, 0, 0, 0] [5, 1, 19, 112, 10, 11, 12, 13, 14, 113, 114, 115, 116, 7, 8, 9, 111, 15, 16, 17, 18, 99, 100, 101, 102, 2, 3, 4, 6, 20, 21, 22, 23, 24, 25, 26, 27, 28, 29, 30, 31, 32, 33, 34, 35, 36, 37, 38, 39, 40, 41, 42, 43, 44, 45, 46, 47, 48, 49, 50, 51, 52, 53, 54, 55, 56, 57, 58, 59, 60, 61, 62, 63, 64, 65, 66, 67, 68, 69, 70, 71, 72, 73, 74, 75, 76, 77, 78, 79, 80, 81, 82, 83, 84, 85, 86, 87, 88, 89, 90, 91, 92, 93, 94, 95, 96, 97, 98, 103, 104, 105, 106, 0, 107, 108, 109, 110, 117, 118, 119, 120, 121, 122, 123, 124, 125, 126, 127, 128, 129, 130, 131, 132, 133, 134, 135, 136, 137, 138, 139, 140, 141, 142, 143] rfl (by decide +kernel) (by decide +kernel)
set_option maxRecDepth 100000 in
set_option maxHeartbeats 4000000 in
theorem gL_law_X8_encode : GoodIn wsL_law (wsV RL 136 RX8 yX8_encode wsX8_encode) := goodIn_app (goodIn_g _ [5, 758, 0, 0] [3, 0, 1, 2] rfl (by decide +kernel) (by decide +kernel)) ggL_law_X8_encode
set_option maxRecDepth 100000 in
set_option maxHeartbeats 4000000 in
theorem ggL_law_L_encodeTape : GoodIn wsL_law wsL_encodeTape := goodIn_ca (goodIn_ca (goodIn_g _ [2, 11, 2, 0, 2, 0, 23, 0, 0, 0, 0, 0, 3, 0, 0, 0, 0, 5, 24, 0, 4, 0, 1, 0, 0, 0, 0, 0, 0, 0, 4, 0, 0, 0, 0, 0, 0, 0, 0, 0, 0, 0, 22, 4, 0, 0, 5, 0, 25, 4, 0, 37, 0, 102, 0, 0, 0, 0, 0, 0, 0, 0, 0, 0, 0, 0, 0, 0, 0, 0, 0, 0, 0, 0, 0, 0, 0, 0, 0, 0, 0, 0, 0, 0, 0, 0, 0, 0, 0, 0, 0, 0, 0, 0, 0, 0, 0, 0, 0, 0, 0, 0, 0, 0, 0, 0, 0, 0, 0, 0, 0, 0, 0, 0, 0, 0, 0, 5, 247, 0, 0, 0, 0, 0, 0, 0, 0, 0, 78, 0, 0, 0, 0, 0, 0, 0, 0, 0, 0, 0, 0, 0, 0, 0, 0, 0, 0, 0, 0, 0, 0, 0, 0, 0, 10, 0, 0, 0, 0, 696, 0, 0, 0, 0, 0, 0, 0, 0, 0, 0, 27, 0, 0, 0, 0, 0, 0, 0, 0, 0, 0, 0, 0, 0, 0, 0, 0, 0, 17, 0, 0, 0, 0, 0, 0, 0] [6, 13, 46, 14, 26, 15, 65, 48, 51, 53, 55, 56, 70, 71, 72, 73, 74, 42, 49, 50, 67, 68, 147, 148, 149, 69, 150, 151, 152, 153, 52, 54, 57, 58, 146, 142, 143, 144, 145, 59, 60, 61, 2, 10, 11, 12, 136, 137, 1, 8, 9, 17, 18, 16, 82, 83, 84, 85, 86, 87, 88, 89, 90, 91, 92, 93, 94, 95, 96, 97, 98, 99, 100, 101, 102, 103, 104, 105, 106, 107, 108, 109, 110, 111, 112, 113, 114, 115, 116, 117, 118, 119, 120, 121, 122, 123, 124, 125, 126, 127, 128, 129, 130, 131, 132, 133, 134, 135, 138, 139, 140, 141, 154, 155, 156, 157, 158, 29, 75, 76, 77, 31, 32, 33, 78, 79, 80, 81, 19, 20, 21, 22, 23, 24, 25, 27, 28, 30, 34, 35, 36, 37, 38, 39, 40, 41, 43, 44, 45, 47, 62, 63, 64, 66, 0, 3, 4, 5, 7, 159, 160, 161, 162, 163, 164, 165, 166, 167, 168, 169, 170, 171, 172, 173, 174, 175, 176, 177, 178, 179, 180, 181, 182, 183, 192, 193, 194, 195, 184, 185, 186, 187, 188, 189, 190, 191] rfl (by decide +kernel) (by decide +kernel)) (goodIn_sub (fun _ h => List.mem_append_left _ (List.mem_append_left _ (List.mem_append_right _ h))) (by decide +kernel))) (goodIn_sub (fun _ h => List.mem_append_left _ (List.mem_append_left _ (List.mem_append_left _ (List.mem_append_right _ h)))) (by decide +kernel))
set_option maxRecDepth 100000 in
set_option maxHeartbeats 4000000 in
theorem gL_law_L_encodeTape : GoodIn wsL_law (va_wsS RL 137 yL_encodeTape wsL_encodeTape) := goodIn_app (goodIn_g _ [143, 628, 0] [2, 0, 1] rfl (by decide +kernel) (by decide +kernel)) ggL_law_L_encodeTape
set_option maxRecDepth 100000 in
set_option maxHeartbeats 4000000 in
theorem ggL_law_X8_encodeTape : GoodIn wsL_law wsX8_encodeTape := goodIn_g _ [5, 122, 1, 0, 0, 31, 0, 0, 0, 0, 0, 4, 0, 0, 0, 18, 0, 0, 210, 1, 0, 0, 0, 70, 0, 0, 0, 9, 0, 0, 0, 0, 0, 0, 0, 0, 0, 0, 0, 0, 0, 0, 0, 0, 0, 0, 0, 0, 0, 0, 0, 0, 0, 0, 0, 0, 0, 0, 0, 0, 0, 0, 0, 0, 0, 0, 0, 0, 0, 0, 0, 0, 0, 0, 0, 0, 0, 0, 0, 0, 0, 0, 0, 0, 0, 0, 0, 0, 0, 0, 0, 0, 0, 0, 0, 0, 0, 0, 0, 0, 0, 0, 0, 0, 0, 0, 0, 0, 0, 0, 0, 0, 0, 0, 0, 0, 0, 0, 0, 0, 0, 0, 0, 0, 0, 0, 171, 0, 0, 0, 10, 703, 0, 0, 0, 0, 0, 0, 0, 0, 0, 0, 0, 0, 0, 0, 0, 0, 0, 0, 0, 0, 0, 0, 0, 0, 0, 0] [6, 8, 2, 29, 126, 1, 20, 21, 22, 23, 24, 127, 128, 129, 130, 17, 18, 19, 125, 25, 26, 27, 28, 113, 114, 115, 116, 3, 4, 5, 7, 9, 10, 11, 12, 13, 14, 15, 16, 30, 31, 32, 33, 34, 35, 36, 37, 38, 39, 40, 41, 42, 43, 44, 45, 46, 47, 48, 49, 50, 51, 52, 53, 54, 55, 56, 57, 58, 59, 60, 61, 62, 63, 64, 65, 66, 67, 68, 69, 70, 71, 72, 73, 74, 75, 76, 77, 78, 79, 80, 81, 82, 83, 84, 85, 86, 87, 88, 89, 90, 91, 92, 93, 94, 95, 96, 97, 98, 99, 100, 101, 102, 103, 104, 105, 106, 107, 108, 109, 110, 111, 112, 117, 118, 119, 120, 121, 122, 123, 124, 0, 131, 132, 133, 134, 135, 136, 137, 138, 139, 140, 141, 142, 143, 144, 145, 146, 147, 148, 149, 150, 151, 152, 153, 154, 155, 156, 157] rfl (by decide +kernel) (by decide +kernel)
set_option maxRecDepth 100000 in
set_option maxHeartbeats 4000000 in
theorem gL_law_X8_encodeTape : GoodIn wsL_law (wsV RL 139 RX8 yX8_encodeTape wsX8_encodeTape) := goodIn_app (goodIn_g _ [5, 773, 0, 0] [3, 0, 1, 2] rfl (by decide +kernel) (by decide +kernel)) ggL_law_X8_encodeTape
set_option maxRecDepth 100000 in
set_option maxHeartbeats 4000000 in
theorem ggL_law_X7_flush : GoodIn wsL_law wsX7_flush := goodIn_g _ [2, 14, 0, 2, 0, 23, 0, 0, 0, 0, 0, 3, 0, 0, 0, 0, 5, 24, 0, 4, 0, 1, 0, 0, 0, 0, 0, 0, 0, 4, 0, 0, 0, 0, 0, 0, 0, 0, 0, 0, 0, 35, 0, 69, 0, 127, 0, 0, 0, 0, 0, 0, 0, 0, 0, 12, 0, 0, 0, 0, 0, 0, 0, 0, 0, 0, 0, 10, 247, 0, 0, 0, 0, 0, 0, 0, 0, 0, 82, 0, 0, 0, 0, 0, 0, 0, 0, 0, 0, 0, 0, 0, 0, 0, 0, 0, 0, 0, 0, 0, 22, 0, 0, 0, 0, 684, 0, 0, 0, 0, 0, 0, 0, 0, 0, 0, 27, 0, 0, 0, 0, 0, 0, 0, 0, 0, 0, 0, 0, 0, 0, 0, 0, 0, 17, 0, 0, 0, 0, 0, 0, 0] [56, 26, 2, 6, 1, 45, 28, 31, 33, 35, 36, 50, 51, 52, 53, 54, 22, 29, 30, 47, 48, 98, 99, 100, 49, 101, 102, 103, 104, 32, 34, 37, 38, 97, 93, 94, 95, 96, 39, 40, 41, 87, 88, 75, 76, 77, 78, 79, 80, 81, 82, 71, 72, 73, 74, 67, 68, 69, 70, 83, 84, 85, 86, 89, 90, 91, 92, 9, 55, 57, 58, 11, 12, 13, 59, 60, 61, 62, 3, 4, 5, 7, 8, 10, 14, 15, 16, 17, 18, 19, 20, 21, 23, 24, 25, 27, 42, 43, 44, 46, 0, 63, 64, 65, 66, 105, 106, 107, 108, 109, 110, 111, 112, 113, 114, 115, 120, 121, 122, 123, 124, 125, 126, 127, 128, 129, 130, 131, 132, 133, 116, 117, 118, 119, 134, 135, 136, 137, 138, 139, 140, 141] rfl (by decide +kernel) (by decide +kernel)
set_option maxRecDepth 100000 in
set_option maxHeartbeats 4000000 in
theorem gL_law_X7_flush : GoodIn wsL_law (wsV RL 140 RX7 yX7_flush wsX7_flush) := goodIn_app (goodIn_g _ [2, 780, 0, 0] [3, 0, 1, 2] rfl (by decide +kernel) (by decide +kernel)) ggL_law_X7_flush
set_option maxRecDepth 100000 in
set_option maxHeartbeats 4000000 in
theorem ggL_law_X8_flush : GoodIn wsL_law wsX8_flush := goodIn_g _ [5, 124, 0, 0, 36, 4, 0, 0, 0, 231, 1, 0, 0, 0, 70, 0, 0, 0, 33, 0, 0, 0, 4, 0, 0, 0, 0, 0, 0, 0, 0, 0, 0, 0, 0, 0, 0, 44, 0, 0, 0, 175, 0, 0, 0, 22, 0, 0, 0, 0, 687, 0, 0, 0, 0, 0, 0, 0, 0, 0, 0, 0, 0, 0, 0, 0, 0, 0, 0, 0, 0, 0, 0, 0, 0, 0, 0] [5, 1, 7, 44, 49, 45, 46, 47, 48, 43, 2, 3, 4, 6, 35, 36, 37, 38, 23, 24, 25, 26, 12, 13, 14, 15, 16, 17, 18, 19, 20, 21, 22, 27, 28, 29, 30, 31, 32, 33, 34, 39, 40, 41, 42, 0, 8, 9, 10, 11, 50, 51, 52, 53, 54, 55, 56, 57, 58, 59, 60, 61, 62, 63, 64, 65, 66, 67, 68, 69, 70, 71, 72, 73, 74, 75, 76] rfl (by decide +kernel) (by decide +kernel)
set_option maxRecDepth 100000 in
set_option maxHeartbeats 4000000 in
theorem gL_law_X8_flush : GoodIn wsL_law (wsV RL 143 RX8 yX8_flush wsX8_flush) := goodIn_app (goodIn_g _ [5, 785, 0, 0] [3, 0, 1, 2] rfl (by decide +kernel) (by decide +kernel)) ggL_law_X8_flush
set_option maxRecDepth 100000 in
set_option maxHeartbeats 4000000 in
theorem ggL_law_X7_restart : GoodIn wsL_law wsX7_restart := goodIn_g _ [2, 14, 0, 2, 0, 23, 0, 0, 0, 0, 0, 3, 0, 0, 0, 0, 5, 24, 0, 4, 0, 1, 0, 0, 0, 0, 0, 0, 0, 1, 0, 0, 0, 0, 0, 0, 0, 0, 0, 0, 0, 0, 0, 0, 279, 247, 0, 0, 0, 0, 0, 0, 0, 0, 0, 82, 0, 0, 0, 0, 0, 0, 0, 0, 0, 0, 0, 0, 0, 0, 0, 0, 0, 0, 0, 0, 0, 38, 0, 671, 0, 0, 0, 0, 0, 0, 0, 0, 0, 0, 27, 0, 0, 0, 0, 0, 0, 0, 0, 0, 0, 0, 0, 0, 0, 0, 0, 0, 17, 0, 0, 0, 0, 0, 0, 0] [56, 26, 2, 6, 1, 45, 28, 31, 33, 35, 36, 50, 51, 52, 53, 54, 22, 29, 30, 47, 48, 68, 69, 70, 49, 71, 72, 73, 74, 64, 65, 66, 32, 34, 37, 38, 67, 75, 76, 77, 78, 39, 40, 41, 9, 55, 57, 58, 11, 12, 13, 59, 60, 61, 62, 3, 4, 5, 7, 8, 10, 14, 15, 16, 17, 18, 19, 20, 21, 23, 24, 25, 27, 42, 43, 44, 46, 0, 63, 79, 80, 81, 82, 83, 84, 85, 86, 87, 88, 89, 90, 91, 92, 93, 94, 95, 96, 97, 98, 99, 100, 101, 102, 103, 104, 105, 106, 107, 108, 109, 110, 111, 112, 113, 114, 115] rfl (by decide +kernel) (by decide +kernel)
set_option maxRecDepth 100000 in
set_option maxHeartbeats 4000000 in
theorem gL_law_X7_restart : GoodIn wsL_law (wsV RL 144 RX7 yX7_restart wsX7_restart) := goodIn_app (goodIn_g _ [2, 796, 0, 0] [3, 0, 1, 2] rfl (by decide +kernel) (by decide +kernel)) ggL_law_X7_restart
set_option maxRecDepth 100000 in
set_option maxHeartbeats 4000000 in
theorem ggL_law_X8_restart : GoodIn wsL_law wsX8_restart := goodIn_g _ [5, 124, 0, 0, 36, 4, 0, 0, 0, 231, 1, 0, 0, 0, 66, 0, 0, 0, 0, 0, 0, 0, 279, 0, 0, 0, 35, 678, 0, 0, 0, 0, 0, 0, 0, 0, 0, 0, 0, 0, 0, 0, 0, 0, 0, 0, 0, 0, 0, 0, 0, 0, 0, 0] [5, 1, 7, 21, 26, 22, 23, 24, 25, 20, 2, 3, 4, 6, 8, 9, 10, 11, 12, 13, 14, 15, 16, 17, 18, 19, 0, 27, 28, 29, 30, 31, 32, 33, 34, 35, 36, 37, 38, 39, 40, 41, 42, 43, 44, 45, 46, 47, 48, 49, 50, 51, 52, 53] rfl (by decide +kernel) (by decide +kernel)
set_option maxRecDepth 100000 in
set_option maxHeartbeats 4000000 in
theorem gL_law_X8_restart : GoodIn wsL_law (wsV RL 147 RX8 yX8_restart wsX8_restart) := goodIn_app (goodIn_g _ [5, 798, 0, 0] [3, 0, 1, 2] rfl (by decide +kernel) (by decide +kernel)) ggL_law_X8_restart
set_option maxRecDepth 100000 in
set_option maxHeartbeats 4000000 in
theorem ggL_law_L_setPolicy : GoodIn wsL_law wsL_setPolicy := goodIn_ca (goodIn_g _ [2, 14, 0, 2, 0, 23, 0, 0, 0, 0, 0, 3, 0, 0, 0, 0, 5, 24, 0, 4, 0, 4, 8, 0, 0, 0, 5, 0, 0, 62, 4, 0, 210, 247, 0, 0, 0, 0, 0, 0, 0, 0, 0, 82, 0, 0, 0, 0, 0, 0, 0, 0, 0, 0, 0, 0, 0, 0, 0, 0, 0, 0, 0, 0, 0, 46, 0, 0, 0, 0, 660, 0, 0, 0, 0, 0, 0, 0, 0, 0, 0, 27, 0, 0, 0, 0, 0, 0, 0, 0, 0, 0, 0, 0, 0, 0, 0, 0, 0, 17, 0, 0, 0, 0, 0, 0, 0] [5, 34, 10, 14, 9, 53, 36, 39, 41, 43, 44, 58, 59, 60, 61, 62, 30, 37, 38, 55, 56, 57, 40, 42, 45, 46, 47, 48, 49, 1, 7, 8, 17, 63, 64, 65, 19, 20, 21, 66, 67, 68, 69, 11, 12, 13, 15, 16, 18, 22, 23, 24, 25, 26, 27, 28, 29, 31, 32, 33, 35, 50, 51, 52, 54, 0, 2, 3, 4, 6, 70, 71, 72, 73, 74, 75, 76, 77, 78, 79, 80, 81, 82, 83, 84, 85, 86, 87, 88, 89, 90, 91, 92, 93, 94, 95, 96, 97, 98, 99, 100, 101, 102, 103, 104, 105, 106] rfl (by decide +kernel) (by decide +kernel)) (goodIn_sub (fun _ h => List.mem_append_left _ (List.mem_append_left _ (List.mem_append_right _ h))) (by decide +kernel))
set_option maxRecDepth 100000 in
set_option maxHeartbeats 4000000 in
theorem gL_law_L_setPolicy : GoodIn wsL_law (va_wsS RL 148 yL_setPolicy wsL_setPolicy) := goodIn_app (goodIn_g _ [143, 664, 0] [2, 0, 1] rfl (by decide +kernel) (by decide +kernel)) ggL_law_L_setPolicy
set_option maxRecDepth 100000 in
set_option maxHeartbeats 4000000 in
theorem ggL_law_X8_setPolicy : GoodIn wsL_law wsX8_setPolicy := goodIn_g _ [5, 124, 0, 0, 32, 0, 0, 0, 0, 4, 0, 0, 0, 18, 0, 0, 210, 1, 0, 0, 0, 353, 0, 0, 0, 46, 667, 0, 0, 0, 0, 0, 0, 0, 0, 0, 0, 0, 0, 0, 0, 0, 0, 0, 0, 0, 0, 0, 0, 0, 0, 0, 0] [4, 1, 15, 21, 6, 7, 8, 9, 10, 22, 23, 24, 25, 2, 3, 5, 20, 11, 12, 13, 14, 16, 17, 18, 19, 0, 26, 27, 28, 29, 30, 31, 32, 33, 34, 35, 36, 37, 38, 39, 40, 41, 42, 43, 44, 45, 46, 47, 48, 49, 50, 51, 52] rfl (by decide +kernel) (by decide +kernel)
set_option maxRecDepth 100000 in
set_option maxHeartbeats 4000000 in
theorem gL_law_X8_setPolicy : GoodIn wsL_law (wsV RL 150 RX8 yX8_setPolicy wsX8_setPolicy) := goodIn_app (goodIn_g _ [5, 809, 0, 0] [3, 0, 1, 2] rfl (by decide +kernel) (by decide +kernel)) ggL_law_X8_setPolicy
set_option maxRecDepth 100000 in
set_option maxHeartbeats 4000000 in
theorem ggL_law_L_setLimit : GoodIn wsL_law wsL_setLimit := goodIn_ca (goodIn_g _ [2, 14, 0, 2, 0, 23, 0, 0, 0, 0, 0, 3, 0, 0, 0, 0, 5, 24, 0, 4, 0, 4, 8, 0, 0, 0, 5, 0, 0, 62, 4, 0, 210, 247, 0, 0, 0, 0, 0, 0, 0, 0, 0, 82, 0, 0, 0, 0, 0, 0, 0, 0, 0, 0, 0, 0, 0, 0, 0, 0, 0, 0, 0, 0, 0, 57, 0, 0, 0, 0, 649, 0, 0, 0, 0, 0, 0, 0, 0, 0, 0, 27, 0, 0, 0, 0, 0, 0, 0, 0, 0, 0, 0, 0, 0, 0, 0, 0, 0, 17, 0, 0, 0, 0, 0, 0, 0] [5, 34, 10, 14, 9, 53, 36, 39, 41, 43, 44, 58, 59, 60, 61, 62, 30, 37, 38, 55, 56, 57, 40, 42, 45, 46, 47, 48, 49, 1, 7, 8, 17, 63, 64, 65, 19, 20, 21, 66, 67, 68, 69, 11, 12, 13, 15, 16, 18, 22, 23, 24, 25, 26, 27, 28, 29, 31, 32, 33, 35, 50, 51, 52, 54, 0, 2, 3, 4, 6, 70, 71, 72, 73, 74, 75, 76, 77, 78, 79, 80, 81, 82, 83, 84, 85, 86, 87, 88, 89, 90, 91, 92, 93, 94, 95, 96, 97, 98, 99, 100, 101, 102, 103, 104, 105, 106] rfl (by decide +kernel) (by decide +kernel)) (goodIn_sub (fun _ h => List.mem_append_left _ (List.mem_append_left _ (List.mem_append_right _ h))) (by decide +kernel))
set_option maxRecDepth 100000 in
set_option maxHeartbeats 4000000 in
theorem gL_law_L_setLimit : GoodIn wsL_law (va_wsS RL 151 yL_setLimit wsL_setLimit) := goodIn_app (goodIn_g _ [143, 675, 0] [2, 0, 1] rfl (by decide +kernel) (by decide +kernel)) ggL_law_L_setLimit
set_option maxRecDepth 100000 in
set_option maxHeartbeats 4000000 in
theorem ggL_law_X8_setLimit : GoodIn wsL_law wsX8_setLimit := goodIn_g _ [5, 124, 0, 0, 32, 0, 0, 0, 0, 4, 0, 0, 0, 18, 0, 0, 210, 1, 0, 0, 0, 353, 0, 0, 0, 57, 0, 0, 0, 653, 0, 0, 0, 0, 0, 0, 0, 0, 0, 0, 0, 0, 0, 0, 0, 0, 0, 0, 0, 0, 0, 0, 0, 0, 0, 0] [4, 1, 18, 24, 9, 10, 11, 12, 13, 25, 26, 27, 28, 6, 7, 8, 23, 14, 15, 16, 17, 19, 20, 21, 22, 0, 2, 3, 5, 29, 30, 31, 32, 33, 34, 35, 36, 37, 38, 39, 40, 41, 42, 43, 44, 45, 46, 47, 48, 49, 50, 51, 52, 53, 54, 55] rfl (by decide +kernel) (by decide +kernel)
set_option maxRecDepth 100000 in
set_option maxHeartbeats 4000000 in
theorem gL_law_X8_setLimit : GoodIn wsL_law (wsV RL 153 RX8 yX8_setLimit wsX8_setLimit) := goodIn_app (goodIn_g _ [5, 820, 0, 0] [3, 0, 1, 2] rfl (by decide +kernel) (by decide +kernel)) ggL_law_X8_setLimit
set_option maxRecDepth 100000 in
set_option maxHeartbeats 4000000 in
theorem ggL_law_L_save : GoodIn wsL_law wsL_save := goodIn_ca (goodIn_g _ [2, 14, 0, 2, 0, 23, 0, 0, 0, 0, 0, 3, 0, 0, 0, 0, 5, 24, 0, 4, 0, 4, 8, 0, 0, 0, 5, 0, 0, 62, 4, 0, 209, 248, 0, 0, 0, 0, 0, 0, 0, 0, 0, 88, 0, 0, 0, 0, 0, 0, 0, 0, 0, 0, 0, 0, 0, 0, 0, 71, 0, 0, 0, 0, 0, 0, 0, 0, 0, 0, 0, 628, 0, 0, 0, 0, 0, 0, 0, 0, 0, 0, 27, 0, 0, 0, 0, 0, 0, 0, 0, 0, 0, 0, 0, 0, 0, 0, 0, 0, 17, 0, 0, 0, 0, 0, 0, 0] [5, 32, 8, 17, 7, 51, 34, 37, 39, 41, 42, 56, 57, 58, 59, 60, 28, 35, 36, 53, 54, 55, 38, 40, 43, 44, 45, 46, 47, 1, 12, 13, 19, 61, 62, 63, 64, 65, 66, 67, 68, 69, 70, 20, 21, 22, 23, 24, 25, 26, 27, 29, 30, 31, 33, 48, 49, 50, 52, 0, 2, 3, 4, 6, 9, 10, 11, 14, 15, 16, 18, 71, 72, 73, 74, 75, 76, 77, 78, 79, 80, 81, 86, 87, 88, 89, 90, 91, 92, 93, 94, 95, 96, 97, 98, 99, 82, 83, 84, 85, 100, 101, 102, 103, 104, 105, 106, 107] rfl (by decide +kernel) (by decide +kernel)) (goodIn_sub (fun _ h => List.mem_append_left _ (List.mem_append_left _ (List.mem_append_right _ h))) (by decide +kernel))
set_option maxRecDepth 100000 in
set_option maxHeartbeats 4000000 in
theorem gL_law_L_save : GoodIn wsL_law (va_wsS RL 154 yL_save wsL_save) := goodIn_app (goodIn_g _ [143, 689, 0] [2, 0, 1] rfl (by decide +kernel) (by decide +kernel)) ggL_law_L_save
set_option maxRecDepth 100000 in
set_option maxHeartbeats 4000000 in
theorem ggL_law_X8_save : GoodIn wsL_law wsX8_save := goodIn_g _ [5, 124, 2, 1, 29, 0, 0, 0, 0, 4, 0, 0, 0, 18, 0, 0, 651, 0, 0, 0, 632, 0, 0, 0, 0, 0, 0, 0, 0, 0, 0, 0, 0, 0, 0, 0, 0, 0, 0, 0, 0, 0, 0, 0, 0, 0, 0] [7, 3, 2, 4, 16, 17, 18, 19, 1, 12, 13, 14, 15, 9, 10, 11, 0, 5, 6, 8, 20, 21, 22, 23, 24, 25, 26, 27, 28, 29, 30, 31, 32, 33, 34, 35, 36, 37, 38, 39, 40, 41, 42, 43, 44, 45, 46] rfl (by decide +kernel) (by decide +kernel)
set_option maxRecDepth 100000 in
set_option maxHeartbeats 4000000 in
theorem gL_law_X8_save : GoodIn wsL_law (wsV RL 157 RX8 yX8_save wsX8_save) := goodIn_app (goodIn_g _ [5, 841, 0, 0] [3, 0, 1, 2] rfl (by decide +kernel) (by decide +kernel)) ggL_law_X8_save
set_option maxRecDepth 100000 in
set_option maxHeartbeats 4000000 in
theorem ggL_law_L_restore : GoodIn wsL_law wsL_restore := goodIn_ca (goodIn_ca (goodIn_g _ [2, 14, 0, 2, 0, 23, 0, 0, 0, 0, 0, 3, 0, 0, 0, 0, 5, 24, 0, 4, 0, 4, 8, 0, 0, 0, 5, 0, 0, 62, 4, 0, 209, 0, 247, 0, 0, 0, 0, 0, 0, 0, 0, 0, 82, 0, 0, 0, 0, 0, 0, 0, 0, 0, 0, 0, 0, 0, 0, 0, 0, 0, 0, 0, 0, 0, 76, 0, 0, 13, 0, 0, 0, 0, 0, 0, 0, 0, 0, 0, 0, 0, 0, 0, 0, 0, 0, 0, 0, 599, 0, 0, 0, 0, 0, 0, 0, 0, 0, 0, 27, 0, 0, 0, 0, 0, 0, 0, 0, 0, 0, 0, 0, 0, 0, 0, 0, 0, 17, 0, 0, 0, 0, 0, 0, 0] [6, 45, 11, 20, 10, 64, 47, 50, 52, 54, 55, 69, 70, 71, 72, 73, 41, 48, 49, 66, 67, 68, 51, 53, 56, 57, 58, 59, 60, 1, 15, 16, 22, 28, 74, 75, 76, 30, 31, 32, 77, 78, 79, 80, 23, 24, 25, 26, 27, 29, 33, 34, 35, 36, 37, 38, 39, 40, 42, 43, 44, 46, 61, 62, 63, 65, 12, 13, 14, 0, 2, 3, 4, 5, 7, 8, 9, 17, 18, 19, 21, 81, 82, 83, 84, 85, 86, 87, 88, 89, 90, 91, 92, 93, 94, 95, 96, 97, 98, 99, 100, 101, 102, 103, 104, 105, 106, 107, 108, 109, 110, 111, 112, 113, 114, 115, 116, 117, 118, 119, 120, 121, 122, 123, 124, 125] rfl (by decide +kernel) (by decide +kernel)) (goodIn_sub (fun _ h => List.mem_append_left _ (List.mem_append_right _ h)) (by decide +kernel))) (goodIn_sub (fun _ h => List.mem_append_left _ (List.mem_append_left _ (List.mem_append_right _ h))) (by decide +kernel))
set_option maxRecDepth 100000 in
set_option maxHeartbeats 4000000 in
theorem gL_law_L_restore : GoodIn wsL_law (va_wsS RL 158 yL_restore wsL_restore) := goodIn_app (goodIn_g _ [143, 710, 0] [2, 0, 1] rfl (by decide +kernel) (by decide +kernel)) ggL_law_L_restore
set_option maxRecDepth 100000 in
set_option maxHeartbeats 4000000 in
theorem ggL_law_X8_restore : GoodIn wsL_law wsX8_restore := goodIn_g _ [5, 124, 0, 0, 0, 1, 29, 0, 0, 0, 0, 4, 0, 0, 0, 18, 0, 0, 210, 1, 0, 0, 0, 353, 0, 0, 0, 79, 0, 0, 25, 606, 0, 0, 0, 0, 0, 0, 0, 0, 0, 0, 0, 0, 0, 0, 0, 0, 0, 0, 0, 0, 0, 0, 0, 0, 0, 0] [6, 2, 20, 26, 3, 1, 11, 12, 13, 14, 15, 27, 28, 29, 30, 8, 9, 10, 25, 16, 17, 18, 19, 21, 22, 23, 24, 4, 5, 7, 0, 31, 32, 33, 34, 35, 36, 37, 38, 39, 40, 41, 42, 43, 44, 45, 46, 47, 48, 49, 50, 51, 52, 53, 54, 55, 56, 57] rfl (by decide +kernel) (by decide +kernel)
set_option maxRecDepth 100000 in
set_option maxHeartbeats 4000000 in
theorem gL_law_X8_restore : GoodIn wsL_law (wsV RL 160 RX8 yX8_restore wsX8_restore) := goodIn_app (goodIn_g _ [5, 870, 0, 0] [3, 0, 1, 2] rfl (by decide +kernel) (by decide +kernel)) ggL_law_X8_restore
set_option maxRecDepth 100000 in
set_option maxHeartbeats 4000000 in
theorem ggL_law_L_undo : GoodIn wsL_law wsL_undo := goodIn_ca (goodIn_g _ [2, 14, 0, 2, 0, 23, 0, 0, 0, 0, 0, 3, 0, 0, 0, 0, 5, 24, 0, 4, 0, 4, 8, 0, 0, 0, 5, 0, 0, 22, 4, 0, 250, 247, 0, 0, 0, 0, 0, 0, 0, 0, 0, 86, 5, 0, 0, 0, 0, 0, 0, 0, 0, 0, 0, 0, 108, 0, 0, 0, 6, 0, 0, 0, 0, 0, 0, 0, 0, 584, 0, 0, 0, 0, 0, 0, 0, 0, 0, 0, 27, 0, 0, 0, 0, 0, 0, 0, 0, 0, 0, 0, 0, 0, 0, 0, 0, 0, 17, 0, 0, 0, 0, 0, 0, 0] [5, 30, 10, 14, 9, 49, 32, 35, 37, 39, 40, 54, 55, 56, 57, 58, 26, 33, 34, 51, 52, 53, 36, 38, 41, 42, 43, 44, 45, 1, 7, 8, 17, 59, 60, 61, 62, 63, 64, 65, 66, 67, 68, 16, 22, 23, 24, 25, 27, 28, 29, 31, 46, 47, 48, 50, 18, 19, 20, 21, 0, 2, 3, 4, 6, 11, 12, 13, 15, 69, 70, 71, 72, 73, 74, 75, 76, 77, 78, 79, 84, 85, 86, 87, 88, 89, 90, 91, 92, 93, 94, 95, 96, 97, 80, 81, 82, 83, 98, 99, 100, 101, 102, 103, 104, 105] rfl (by decide +kernel) (by decide +kernel)) (goodIn_sub (fun _ h => List.mem_append_left _ (List.mem_append_left _ (List.mem_append_left _ (List.mem_append_right _ h)))) (by decide +kernel))
set_option maxRecDepth 100000 in
set_option maxHeartbeats 4000000 in
theorem gL_law_L_undo : GoodIn wsL_law (va_wsS RL 161 yL_undo wsL_undo) := goodIn_app (goodIn_g _ [143, 736, 0] [2, 0, 1] rfl (by decide +kernel) (by decide +kernel)) ggL_law_L_undo
set_option maxRecDepth 100000 in
set_option maxHeartbeats 4000000 in
theorem ggL_law_X8_undo : GoodIn wsL_law wsX8_undo := goodIn_g _ [5, 124, 1, 32, 0, 0, 0, 0, 4, 0, 0, 0, 231, 484, 591, 0, 0, 0, 0, 0, 0, 0, 0, 0, 0, 0, 0, 0, 0, 0, 0, 0, 0, 0, 0, 0, 0, 0, 0, 0, 0] [7, 2, 3, 4, 5, 6, 8, 9, 10, 11, 12, 13, 1, 0, 14, 15, 16, 17, 18, 19, 20, 21, 22, 23, 24, 25, 26, 27, 28, 29, 30, 31, 32, 33, 34, 35, 36, 37, 38, 39, 40] rfl (by decide +kernel) (by decide +kernel)
