set_option maxRecDepth 20000 in
theorem wsL_law_c8 : ∀ w ∈ wsL_law0_r8, w ∈ lw_tbl := lw_mem _ [501, 512, 503, 514, 519, 504, 505, 506, 507, 516, 508, 509, 510, 511, 531, 532, 15, 533, 534, 535, 536, 537, 538, 539] (by decide +kernel)
set_option maxRecDepth 20000 in
theorem wsL_law_act3 : Cond.code yL_act cL_act 21 (some .boolean) ∈ tables_1_3 := List.mem_of_getElem? (i := 45) rfl
set_option maxRecDepth 20000 in
theorem wsL_law_act : Cond.code yL_act cL_act 21 (some .boolean) ∈ lw_tbl := List.mem_append_right _ (List.mem_append_right _ (List.mem_append_right _ (List.mem_append_left _ wsL_law_act3)))
set_option maxRecDepth 20000 in
theorem wsL_law_c9 : ∀ w ∈ wsL_law0_r9, w ∈ lw_tbl := List.forall_mem_cons.mpr ⟨wsL_law_act, lw_mem _ [515, 541, 542, 543, 544, 545, 546, 547, 548, 549, 550, 551, 552, 553, 554, 283, 285, 5, 286, 290, 31, 287, 288] (by decide +kernel)⟩
set_option maxRecDepth 20000 in
theorem wsL_law_c10 : ∀ w ∈ wsL_law0_r10, w ∈ lw_tbl := lw_mem _ [289, 555, 557, 12, 558, 559, 32, 85, 575, 577, 13, 578, 83, 579, 580, 581, 582, 583, 587, 588, 35, 589, 590, 36] (by decide +kernel)
