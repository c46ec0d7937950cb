theorem in_td {big : List Cond} (ws : List Cond) (k : Nat) (h1 : ∀ w ∈ ws.take k, w ∈ big) (h2 : ∀ w ∈ ws.drop k, w ∈ big) : ∀ w ∈ ws, w ∈ big := by
  intro w h
  rw [← List.take_append_drop k ws] at h
  exact (List.mem_append.mp h).elim (h1 w) (h2 w)

set_option maxRecDepth 20000 in
theorem iL_r18 : ∀ w ∈ wsL_law_r18, w ∈ lw_tbl := fun w h => (goodIn_p wsL_law_r18 [553, 557, 561, 567] (by decide +kernel) (by decide +kernel) w h).1
set_option maxRecDepth 20000 in
theorem iL_r19 : ∀ w ∈ wsL_law_r19, w ∈ lw_tbl := fun w h => (goodIn_p wsL_law_r19 [572, 576, 580] (by decide +kernel) (by decide +kernel) w h).1
set_option maxRecDepth 20000 in
theorem iL_r20 : ∀ w ∈ wsL_law_r20, w ∈ lw_tbl := fun w h => (goodIn_p wsL_law_r20 [584, 588, 605, 609, 601] (by decide +kernel) (by decide +kernel) w h).1
