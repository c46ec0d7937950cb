set_option maxRecDepth 20000 in
theorem iL_r26c : ∀ w ∈ (wsL_law_r26.drop 9).drop 3, w ∈ lw_tbl := fun w h => (goodIn_p ((wsL_law_r26.drop 9).drop 3) [594] (by decide +kernel) (by decide +kernel) w h).1
set_option maxRecDepth 20000 in
theorem iL_r26 : ∀ w ∈ wsL_law_r26, w ∈ lw_tbl := in_td wsL_law_r26 9 iL_r26a (in_td _ 3 iL_r26b iL_r26c)
set_option maxRecDepth 20000 in
theorem iL_X90 : ∀ w ∈ wsX90, w ∈ lw_tbl := by decide +kernel
