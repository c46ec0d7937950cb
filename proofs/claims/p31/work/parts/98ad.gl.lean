set_option maxRecDepth 20000 in
theorem iL_r24 : ∀ w ∈ wsL_law_r24, w ∈ lw_tbl := fun w h => (goodIn_p wsL_law_r24 [689, 694, 698, 703, 707] (by decide +kernel) (by decide +kernel) w h).1
