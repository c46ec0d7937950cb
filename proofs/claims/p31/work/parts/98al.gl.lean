set_option maxRecDepth 20000 in
theorem iL_X50 : ∀ w ∈ wsX50, w ∈ lw_tbl := by decide +kernel
set_option maxRecDepth 20000 in
theorem iL_X10 : ∀ w ∈ wsX10, w ∈ lw_tbl := by decide +kernel
set_option maxRecDepth 20000 in
theorem iL_X70 : ∀ w ∈ wsX70, w ∈ lw_tbl := by decide +kernel
