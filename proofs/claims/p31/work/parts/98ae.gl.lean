set_option maxRecDepth 20000 in
theorem iL_r25a : ∀ w ∈ wsL_law_r25.take 8, w ∈ lw_tbl := fun w h => (goodIn_p (wsL_law_r25.take 8) [711, 715] (by decide +kernel) (by decide +kernel) w h).1
