set_option maxRecDepth 20000 in
theorem wlp_13 : ∀ w ∈ wsL_law0_r13, w ∈ lw_tbl := by decide +kernel
set_option maxRecDepth 20000 in
theorem wlp_14 : ∀ w ∈ wsL_law0_r14, w ∈ lw_tbl := by decide +kernel
set_option maxRecDepth 20000 in
theorem wlp_15 : ∀ w ∈ wsL_law0_r15, w ∈ lw_tbl := by decide +kernel
