set_option maxRecDepth 20000 in
theorem iL_X40 : ∀ w ∈ wsX40, w ∈ lw_tbl := by decide +kernel
set_option maxRecDepth 20000 in
theorem iL_X00 : ∀ w ∈ wsX00, w ∈ lw_tbl := by decide +kernel
