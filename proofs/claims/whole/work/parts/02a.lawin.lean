set_option maxRecDepth 20000 in
theorem wsL_in1 : GoodIn lw_tbl wsL_law_r1 := goodIn_p wsL_law_r1 [29, 32] rfl (by decide +kernel)
set_option maxRecDepth 20000 in
theorem wsL_in2 : GoodIn lw_tbl wsL_law_r2 := goodIn_p wsL_law_r2 [37, 57, 262] rfl (by decide +kernel)
set_option maxRecDepth 20000 in
theorem wsL_in3 : GoodIn lw_tbl wsL_law_r3 := goodIn_p wsL_law_r3 [266, 270, 274, 277] rfl (by decide +kernel)
set_option maxRecDepth 20000 in
theorem wsL_in4 : GoodIn lw_tbl wsL_law_r4 := goodIn_p wsL_law_r4 [97, 358, 101, 105, 114] rfl (by decide +kernel)
set_option maxRecDepth 20000 in
theorem wsL_in5 : GoodIn lw_tbl wsL_law_r5 := goodIn_p wsL_law_r5 [362, 366, 118, 370, 122] rfl (by decide +kernel)
set_option maxRecDepth 20000 in
theorem wsL_in6 : GoodIn lw_tbl wsL_law_r6 := goodIn_p wsL_law_r6 [126, 374, 338, 132] rfl (by decide +kernel)
set_option maxRecDepth 20000 in
theorem wsL_in7 : GoodIn lw_tbl wsL_law_r7 := goodIn_p wsL_law_r7 [136, 140, 143, 147, 151, 155, 158] rfl (by decide +kernel)
set_option maxRecDepth 20000 in
theorem wsL_in8 : GoodIn lw_tbl wsL_law_r8 := goodIn_p wsL_law_r8 [161, 165, 169, 173, 177, 183] rfl (by decide +kernel)
set_option maxRecDepth 20000 in
theorem wsL_in9 : GoodIn lw_tbl wsL_law_r9 := goodIn_p wsL_law_r9 [186, 190, 196, 199, 382, 386] rfl (by decide +kernel)
set_option maxRecDepth 20000 in
theorem wsL_in10 : GoodIn lw_tbl wsL_law_r10 := goodIn_p wsL_law_r10 [390, 394, 398, 401, 350, 405, 203] rfl (by decide +kernel)
set_option maxRecDepth 20000 in
theorem wsL_in11 : GoodIn lw_tbl wsL_law_r11 := goodIn_p wsL_law_r11 [410, 207, 211, 216, 414] rfl (by decide +kernel)
set_option maxRecDepth 20000 in
theorem wsL_in12 : GoodIn lw_tbl wsL_law_r12 := goodIn_p wsL_law_r12 [221, 224, 228, 232, 420, 236] rfl (by decide +kernel)
set_option maxRecDepth 20000 in
theorem wsL_in13 : GoodIn lw_tbl wsL_law_r13 := goodIn_p wsL_law_r13 [424, 240, 428, 244, 335, 248] rfl (by decide +kernel)
set_option maxRecDepth 20000 in
theorem wsL_in14 : GoodIn lw_tbl wsL_law_r14 := goodIn_p wsL_law_r14 [343, 252, 347, 257, 354] rfl (by decide +kernel)
theorem wsL_inX2 : GoodIn lw_tbl wsX20 := goodIn_of _ (by decide +kernel)
theorem wsL_inX3 : GoodIn lw_tbl wsX30 := goodIn_of _ (by decide +kernel)
theorem wsL_inX0 : GoodIn lw_tbl wsX00 := goodIn_of _ (by decide +kernel)
theorem wsL_inX1 : GoodIn lw_tbl wsX10 := goodIn_of _ (by decide +kernel)
theorem wsL_law_in : ∀ w ∈ wsL_law, w ∈ lw_tbl := fun w h => ((goodIn_app (goodIn_app (goodIn_app (goodIn_app (goodIn_app (goodIn_app wsL_in1 (goodIn_app wsL_in2 (goodIn_app wsL_in3 (goodIn_app wsL_in4 (goodIn_app wsL_in5 (goodIn_app wsL_in6 (goodIn_app wsL_in7 (goodIn_app wsL_in8 (goodIn_app wsL_in9 (goodIn_app wsL_in10 (goodIn_app wsL_in11 (goodIn_app wsL_in12 (goodIn_app wsL_in13 wsL_in14))))))))))))) wsL_inX2) wsL_inX3) wsL_inX0) wsL_inX1) (fun _ h => absurd h List.not_mem_nil) : GoodIn lw_tbl wsL_law) w h).1
theorem inlX0 : ∀ w ∈ wsX00, w ∈ wsL_law := fun _ h => List.mem_append_left _ (List.mem_append_left _ (List.mem_append_right _ h))
theorem inX0 : ∀ w ∈ wsX00, w ∈ lw_tbl := fun w h => wsL_law_in w (inlX0 w h)
theorem inlX1 : ∀ w ∈ wsX10, w ∈ wsL_law := fun _ h => List.mem_append_left _ (List.mem_append_right _ h)
theorem inX1 : ∀ w ∈ wsX10, w ∈ lw_tbl := fun w h => wsL_law_in w (inlX1 w h)
theorem inlX2 : ∀ w ∈ wsX20, w ∈ wsL_law := fun _ h => List.mem_append_left _ (List.mem_append_left _ (List.mem_append_left _ (List.mem_append_left _ (List.mem_append_right _ h))))
theorem inX2 : ∀ w ∈ wsX20, w ∈ lw_tbl := fun w h => wsL_law_in w (inlX2 w h)
theorem inlX3 : ∀ w ∈ wsX30, w ∈ wsL_law := fun _ h => List.mem_append_left _ (List.mem_append_left _ (List.mem_append_left _ (List.mem_append_right _ h)))
theorem inX3 : ∀ w ∈ wsX30, w ∈ lw_tbl := fun w h => wsL_law_in w (inlX3 w h)
theorem inJ10 : ∀ w ∈ wsJ100, w ∈ lw_tbl := by decide +kernel
