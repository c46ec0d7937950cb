set_option maxRecDepth 20000 in
theorem iL_r26a : ∀ w ∈ wsL_law_r26.take 9, w ∈ lw_tbl := fun w h => (goodIn_p (wsL_law_r26.take 9) [734, 598, 738] (by decide +kernel) (by decide +kernel) w h).1
