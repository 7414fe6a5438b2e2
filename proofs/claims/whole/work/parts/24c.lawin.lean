set_option maxRecDepth 20000 in
theorem wlp_7 : ∀ w ∈ wsL_law0_r7, w ∈ lw_tbl := by decide +kernel
set_option maxRecDepth 20000 in
theorem wlp_8 : ∀ w ∈ wsL_law0_r8, w ∈ lw_tbl := by decide +kernel
set_option maxRecDepth 20000 in
theorem wlp_9 : ∀ w ∈ wsL_law0_r9, w ∈ lw_tbl := by decide +kernel
