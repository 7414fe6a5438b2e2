set_option maxRecDepth 20000 in
theorem wlp_1 : ∀ w ∈ wsL_law0_r1, w ∈ lw_tbl := by decide +kernel
set_option maxRecDepth 20000 in
theorem wlp_2 : ∀ w ∈ wsL_law0_r2, w ∈ lw_tbl := by decide +kernel
set_option maxRecDepth 20000 in
theorem wlp_3 : ∀ w ∈ wsL_law0_r3, w ∈ lw_tbl := by decide +kernel
