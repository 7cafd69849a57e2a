set_option maxRecDepth 20000 in
theorem my_in_wsL_law0_r1 : ∀ w ∈ wsL_law0_r1, w ∈ lw_tbl := fun w h => (goodIn_p wsL_law0_r1 [41, 44] (by decide +kernel) (by decide +kernel) w h).1
set_option maxRecDepth 20000 in
theorem my_in_wsL_law0_r2 : ∀ w ∈ wsL_law0_r2, w ∈ lw_tbl := fun w h => (goodIn_p wsL_law0_r2 [49, 63] (by decide +kernel) (by decide +kernel) w h).1
set_option maxRecDepth 20000 in
theorem my_in_wsL_law0_r3 : ∀ w ∈ wsL_law0_r3, w ∈ lw_tbl := fun w h => (goodIn_p wsL_law0_r3 [88, 429] (by decide +kernel) (by decide +kernel) w h).1
set_option maxRecDepth 20000 in
theorem my_in_wsL_law0_r4 : ∀ w ∈ wsL_law0_r4, w ∈ lw_tbl := fun w h => (goodIn_p wsL_law0_r4 [156, 160, 508, 164, 167, 171] (by decide +kernel) (by decide +kernel) w h).1
set_option maxRecDepth 20000 in
theorem my_in_wsL_law0_r5 : ∀ w ∈ wsL_law0_r5, w ∈ lw_tbl := fun w h => (goodIn_p wsL_law0_r5 [176, 512, 181, 185] (by decide +kernel) (by decide +kernel) w h).1
set_option maxRecDepth 20000 in
theorem my_in_wsL_law0_r6 : ∀ w ∈ wsL_law0_r6, w ∈ lw_tbl := fun w h => (goodIn_p wsL_law0_r6 [189, 194, 517, 521, 198] (by decide +kernel) (by decide +kernel) w h).1
