set_option maxRecDepth 20000 in
theorem wlp_4 : ∀ w ∈ wsL_law0_r4, w ∈ lw_tbl := by decide +kernel
set_option maxRecDepth 20000 in
theorem wlp_5 : ∀ w ∈ wsL_law0_r5, w ∈ lw_tbl := by decide +kernel
set_option maxRecDepth 20000 in
theorem wlp_6 : ∀ w ∈ wsL_law0_r6, w ∈ lw_tbl := by decide +kernel
