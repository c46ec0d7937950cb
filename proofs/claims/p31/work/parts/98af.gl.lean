set_option maxRecDepth 20000 in
theorem iL_r25b : ∀ w ∈ (wsL_law_r25.drop 8).take 4, w ∈ lw_tbl := fun w h => (goodIn_p ((wsL_law_r25.drop 8).take 4) [719] (by decide +kernel) (by decide +kernel) w h).1
