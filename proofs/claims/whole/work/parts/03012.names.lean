set_option maxRecDepth 20000 in
theorem my_in_wsL_law0_r13 : ∀ w ∈ wsL_law0_r13, w ∈ lw_tbl := fun w h => (goodIn_p wsL_law0_r13 [291, 574, 295, 299, 303] (by decide +kernel) (by decide +kernel) w h).1
set_option maxRecDepth 20000 in
theorem my_in_wsL_law0_r14 : ∀ w ∈ wsL_law0_r14, w ∈ lw_tbl := fun w h => (goodIn_p wsL_law0_r14 [307, 311, 315, 319, 323, 578] (by decide +kernel) (by decide +kernel) w h).1
set_option maxRecDepth 20000 in
theorem my_in_wsL_law0_r15 : ∀ w ∈ wsL_law0_r15, w ∈ lw_tbl := fun w h => (goodIn_p wsL_law0_r15 [582, 417, 424] (by decide +kernel) (by decide +kernel) w h).1
set_option maxRecDepth 20000 in
theorem my_in_wsL_law0_r16 : ∀ w ∈ wsL_law0_r16, w ∈ lw_tbl := fun w h => (goodIn_p wsL_law0_r16 [586, 504, 327, 590, 331] (by decide +kernel) (by decide +kernel) w h).1
set_option maxRecDepth 20000 in
theorem my_in_wsL_law0_r17 : ∀ w ∈ wsL_law0_r17, w ∈ lw_tbl := fun w h => (goodIn_p wsL_law0_r17 [594, 336, 599] (by decide +kernel) (by decide +kernel) w h).1
set_option maxRecDepth 20000 in
theorem my_in_wsX30 : ∀ w ∈ wsX30, w ∈ lw_tbl := by decide +kernel
