set_option maxRecDepth 20000 in
theorem wlp_22 : ∀ w ∈ wsL_law0_r22, w ∈ lw_tbl := by decide +kernel
set_option maxRecDepth 20000 in
theorem wlp_23 : ∀ w ∈ wsL_law0_r23, w ∈ lw_tbl := by decide +kernel
set_option maxRecDepth 20000 in
theorem wlp_24 : ∀ w ∈ wsL_law0_r24, w ∈ lw_tbl := by decide +kernel
