/-! THE LAW 3: its loop, its start -/
set_option maxRecDepth 20000 in
theorem nfW_in : ∀ w ∈ nfW, w ∈ lw_tbl := by decide +kernel
set_option maxRecDepth 20000 in
theorem nmW_in : ∀ w ∈ nmW, w ∈ lw_tbl := by decide +kernel
