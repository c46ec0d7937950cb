set_option maxRecDepth 20000 in
theorem iL_r26b : ∀ w ∈ (wsL_law_r26.drop 9).take 3, w ∈ lw_tbl := fun w h => (goodIn_p ((wsL_law_r26.drop 9).take 3) [591] (by decide +kernel) (by decide +kernel) w h).1
