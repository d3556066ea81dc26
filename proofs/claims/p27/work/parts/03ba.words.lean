theorem lw_mem (ws : List Cond) (ps : List Nat) (h : ws = ps.filterMap (fun i => lw_tbl[i]?)) : ∀ w ∈ ws, w ∈ lw_tbl := by
  intro w hw
  rw [h] at hw
  obtain ⟨i, -, hi⟩ := List.mem_filterMap.mp hw
  exact List.mem_of_getElem? hi
set_option maxRecDepth 20000 in
theorem wsL_law_c1 : ∀ w ∈ wsL_law0_r1, w ∈ lw_tbl := lw_mem _ [41, 42, 16, 495, 496, 27, 518, 517, 513, 755, 218, 22, 219, 754, 186, 187, 43, 44, 45, 46, 47, 48, 49, 256] (by decide +kernel)
set_option maxRecDepth 20000 in
theorem wsL_law_c2 : ∀ w ∈ wsL_law0_r2, w ∈ lw_tbl := lw_mem _ [51, 17, 257, 156, 57, 20, 258, 278, 259, 260, 261, 262, 52, 53, 54, 55, 56, 86, 90, 92, 94, 96, 98, 100] (by decide +kernel)
set_option maxRecDepth 20000 in
theorem wsL_law_c3 : ∀ w ∈ wsL_law0_r3, w ∈ lw_tbl := lw_mem _ [102, 82, 84, 88, 58, 59, 60, 68, 70, 61, 62, 19, 63, 72, 64, 65, 18, 66, 67, 157, 158, 160, 0, 161] (by decide +kernel)
set_option maxRecDepth 20000 in
theorem wsL_law_c4 : ∀ w ∈ wsL_law0_r4, w ∈ lw_tbl := lw_mem _ [49, 87, 162, 163, 164, 165, 73, 74, 71, 166, 167, 168, 169, 170, 172, 1, 173, 174, 176, 2, 177, 178, 180, 3] (by decide +kernel)
set_option maxRecDepth 20000 in
theorem wsL_law_c5 : ∀ w ∈ wsL_law0_r5, w ∈ lw_tbl := lw_mem _ [181, 223, 224, 182, 183, 21, 184, 185, 188, 189, 190, 191, 192, 193, 23, 194, 195, 772, 196, 210, 211, 212, 213, 214] (by decide +kernel)
set_option maxRecDepth 20000 in
theorem wsL_law_c6 : ∀ w ∈ wsL_law0_r6, w ∈ lw_tbl := lw_mem _ [216, 217, 220, 222, 221, 24, 225, 226, 227, 228, 229, 230, 231, 232, 233, 234, 25, 235, 236, 237, 26, 238, 239, 240] (by decide +kernel)
set_option maxRecDepth 20000 in
theorem wsL_law_c7 : ∀ w ∈ wsL_law0_r7, w ∈ lw_tbl := lw_mem _ [241, 242, 243, 244, 245, 246, 104, 106, 110, 108, 112, 247, 248, 249, 250, 255, 251, 253, 4, 254, 497, 498, 499, 500] (by decide +kernel)
