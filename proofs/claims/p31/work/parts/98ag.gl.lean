set_option maxRecDepth 20000 in
theorem iL_r25c : ∀ w ∈ (wsL_law_r25.drop 8).drop 4, w ∈ lw_tbl := fun w h => (goodIn_p ((wsL_law_r25.drop 8).drop 4) [723, 727, 730] (by decide +kernel) (by decide +kernel) w h).1
set_option maxRecDepth 20000 in
theorem iL_r25 : ∀ w ∈ wsL_law_r25, w ∈ lw_tbl := in_td wsL_law_r25 8 iL_r25a (in_td _ 4 iL_r25b iL_r25c)
