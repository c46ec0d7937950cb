set_option maxRecDepth 20000 in
theorem iL_X60 : ∀ w ∈ wsX60, w ∈ lw_tbl := by decide +kernel
set_option maxRecDepth 20000 in
theorem iL_X20 : ∀ w ∈ wsX20, w ∈ lw_tbl := by decide +kernel
set_option maxRecDepth 20000 in
theorem iL_X80 : ∀ w ∈ wsX80, w ∈ lw_tbl := by decide +kernel
