set_option maxRecDepth 20000 in
theorem i_wsL_law0_r28 : ∀ w ∈ wsL_law0_r28, w ∈ lw_tbl := fun w h => (goodIn_p wsL_law0_r28 [530, 558, 563, 585] rfl (by decide +kernel) w h).1
set_option maxRecDepth 20000 in
theorem i_wsL_law0_r29 : ∀ w ∈ wsL_law0_r29, w ∈ lw_tbl := fun w h => (goodIn_p wsL_law0_r29 [590, 632, 945, 949, 593, 954] rfl (by decide +kernel) w h).1
set_option maxRecDepth 20000 in
theorem i_wsL_law0_r30 : ∀ w ∈ wsL_law0_r30, w ∈ lw_tbl := fun w h => (goodIn_p wsL_law0_r30 [571, 566, 575, 578, 596, 604] rfl (by decide +kernel) w h).1
set_option maxRecDepth 20000 in
theorem i_wsL_law0_r31 : ∀ w ∈ wsL_law0_r31, w ∈ lw_tbl := fun w h => (goodIn_p wsL_law0_r31 [610, 614, 998, 968] rfl (by decide +kernel) w h).1
set_option maxRecDepth 20000 in
theorem i_wsL_law0_r32 : ∀ w ∈ wsL_law0_r32, w ∈ lw_tbl := fun w h => (goodIn_p wsL_law0_r32 [962] rfl (by decide +kernel) w h).1
set_option maxRecDepth 20000 in
theorem i_wsL_law0_r33 : ∀ w ∈ wsL_law0_r33, w ∈ lw_tbl := fun w h => (goodIn_p wsL_law0_r33 [965, 958] rfl (by decide +kernel) w h).1
