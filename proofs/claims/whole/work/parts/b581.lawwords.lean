theorem wsX40_in : ∀ w ∈ wsX40, w ∈ lw_tbl := by decide +kernel
