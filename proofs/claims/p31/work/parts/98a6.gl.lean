set_option maxRecDepth 20000 in
theorem iL_X80 : ∀ w ∈ wsX80, w ∈ lw_tbl := by decide +kernel
set_option maxRecDepth 20000 in
theorem iL_X50 : ∀ w ∈ wsX50, w ∈ lw_tbl := by decide +kernel
set_option maxRecDepth 20000 in
theorem iL_X10 : ∀ w ∈ wsX10, w ∈ lw_tbl := by decide +kernel
