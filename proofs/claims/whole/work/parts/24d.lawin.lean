set_option maxRecDepth 20000 in
theorem wlp_10 : ∀ w ∈ wsL_law0_r10, w ∈ lw_tbl := by decide +kernel
set_option maxRecDepth 20000 in
theorem wlp_11 : ∀ w ∈ wsL_law0_r11, w ∈ lw_tbl := by decide +kernel
set_option maxRecDepth 20000 in
theorem wlp_12 : ∀ w ∈ wsL_law0_r12, w ∈ lw_tbl := by decide +kernel
